def f_X3_conditional_159 (th : Int32) (so : Nat → Int32) (fi : Nat → Int32) (el : Nat → Int32) (av : Nat → Int32) (un : Nat → Int32) (ty : Int32) (kp : Nat → Int32) (bt : Nat → Int64) (oc : Int32) (x1 : Int32) (x2 : Int32) (sa : Int32) (ta : Int32) (th2 : Int32) : Int32 × ((Int32)) := if (un (((40 : Int32) * sa) + ta).toNatClampNeg) = 0 then (if (un (((40 : Int32) * ta) + sa).toNatClampNeg) = 0 then ((16 : Int32), th2)
    else (sa, th2))
  else (ta, th2)
def f_X3_conditional_143 (th : Int32) (so : Nat → Int32) (fi : Nat → Int32) (el : Nat → Int32) (av : Nat → Int32) (un : Nat → Int32) (ty : Int32) (kp : Nat → Int32) (bt : Nat → Int64) (oc : Int32) (x1 : Int32) (x2 : Int32) (sa : Int32) (th2 : Int32) : Int32 × ((Int32)) := if (8 : Int32) ≤ x2 then f_X3_conditional_159 th so fi el av un ty kp bt oc x1 x2 sa x2 th2
  else f_X3_conditional_159 th so fi el av un ty kp bt oc x1 x2 sa (x2 + (8 : Int32)) th2
def f_X3_conditional_129 (th : Int32) (so : Nat → Int32) (fi : Nat → Int32) (el : Nat → Int32) (av : Nat → Int32) (un : Nat → Int32) (ty : Int32) (kp : Nat → Int32) (bt : Nat → Int64) (oc : Int32) (x1 : Int32) (x2 : Int32) (th2 : Int32) : Int32 × ((Int32)) := if (8 : Int32) ≤ x1 then f_X3_conditional_143 th so fi el av un ty kp bt oc x1 x2 x1 th2
  else f_X3_conditional_143 th so fi el av un ty kp bt oc x1 x2 (x1 + (8 : Int32)) th2
def f_X3_conditional_69 (th : Int32) (so : Nat → Int32) (fi : Nat → Int32) (el : Nat → Int32) (av : Nat → Int32) (un : Nat → Int32) (ty : Int32) (kp : Nat → Int32) (bt : Nat → Int64) (oc : Int32) (x1 : Int32) (x2 : Int32) (th2 : Int32) : Int32 × ((Int32)) := if (f_X3_numberOf x1) ≤ 0 then f_X3_conditional_129 th so fi el av un ty kp bt oc x1 x2 th2
  else if (f_X3_numberOf x2) ≤ 0 then f_X3_conditional_129 th so fi el av un ty kp bt oc x1 x2 th2
  else if (f_X3_numberOf x1) = (f_X3_numberOf x2) then ((f_X3_numberOf x1), th2)
  else if (f_X3_in (f_X3_numberOf x1) (2 : Int32) (3 : Int32)) = 0 then ((f_X3_bothOf (f_X3_numberOf x1) (f_X3_numberOf x2)), th2)
  else if (f_X3_in (f_X3_numberOf x2) (2 : Int32) (3 : Int32)) = 0 then ((f_X3_bothOf (f_X3_numberOf x1) (f_X3_numberOf x2)), th2)
  else ((3 : Int32), th2)
def f_X3_conditional_58 (th : Int32) (so : Nat → Int32) (fi : Nat → Int32) (el : Nat → Int32) (av : Nat → Int32) (un : Nat → Int32) (ty : Int32) (kp : Nat → Int32) (bt : Nat → Int64) (oc : Int32) (x1 : Int32) (x2 : Int32) (th2 : Int32) : Int32 × ((Int32)) := if x2 ≤ x1 then (x2, th2)
  else (x1, th2)
def f_X3_conditional_44 (th : Int32) (so : Nat → Int32) (fi : Nat → Int32) (el : Nat → Int32) (av : Nat → Int32) (un : Nat → Int32) (ty : Int32) (kp : Nat → Int32) (bt : Nat → Int64) (oc : Int32) (x1 : Int32) (x2 : Int32) (th2 : Int32) : Int32 × ((Int32)) := if (8 : Int32) ≤ x2 then f_X3_conditional_69 th so fi el av un ty kp bt oc x1 x2 th2
  else if x1 = (x2 + (8 : Int32)) then f_X3_conditional_58 th so fi el av un ty kp bt oc x1 x2 th2
  else f_X3_conditional_69 th so fi el av un ty kp bt oc x1 x2 th2
def f_X3_conditional (th : Int32) (so : Nat → Int32) (fi : Nat → Int32) (el : Nat → Int32) (av : Nat → Int32) (un : Nat → Int32) (ty : Int32) (kp : Nat → Int32) (bt : Nat → Int64) (oc : Int32) (x1 : Int32) (x2 : Int32) : Int32 × ((Int32)) := if (f_X3_isType so fi el av un ty kp bt oc x1) = 0 then ((-1 : Int32), (0 : Int32))
  else if (f_X3_isType so fi el av un ty kp bt oc x2) = 0 then ((-1 : Int32), (0 : Int32))
  else if x1 = x2 then (x1, (0 : Int32))
  else if (8 : Int32) ≤ x1 then f_X3_conditional_44 th so fi el av un ty kp bt oc x1 x2 (0 : Int32)
  else if x2 = (x1 + (8 : Int32)) then f_X3_conditional_58 th so fi el av un ty kp bt oc x1 x2 (0 : Int32)
  else f_X3_conditional_44 th so fi el av un ty kp bt oc x1 x2 (0 : Int32)
set_option maxHeartbeats 4000000 in
set_option maxRecDepth 100000 in
theorem c_X3_conditional (l : Launch) (dC : Nat → ClassId) (dI : Nat → Nat → Nat) (cyI cyZ cyJ : ClassId) (h3 e0 e1 e2 e3 e4 e5 e6 : Nat) (th : Int32) (so : Nat → Int32) (fi : Nat → Int32) (el : Nat → Int32) (av : Nat → Int32) (un : Nat → Int32) (ty : Int32) (kp : Nat → Int32) (bt : Nat → Int64) (oc : Int32) (hs : Nat) (x1 : Int32) (x2 : Int32) (gz : 0 ≤ ty.toInt ∧ ty.toInt ≤ 40) : Met l yX3_conditional wsX3_conditional ({ frames := 3, cells := 0, slots := 0, locals := 63 }) (va_Pc [.ref h3, .int x1, .int x2] (mb_M (dC, dI) (mb_tys cyI cyZ cyJ) hs [(h3, .inr (5, [.int th, .int ty, .ref e0, .ref e1, .ref e2, .ref e3, .ref e4, .int oc, .ref e5, .ref e6])), (e0, .inl (cyI, 40, .inl so)), (e1, .inl (cyZ, 40, .inl fi)), (e2, .inl (cyI, 40, .inl el)), (e3, .inl (cyI, 120, .inl av)), (e4, .inl (cyZ, 1600, .inl un)), (e5, .inl (cyI, 60, .inl kp)), (e6, .inl (cyJ, 60, .inr (.inl bt)))])) (va_Qi (S := ((Int32))) (fun r u => (r, u) = f_X3_conditional th so fi el av un ty kp bt oc x1 x2) (fun u t => mb_at dC dI cyI cyZ cyJ (va_A [(h3, .inr (5, [.int th, .int ty, .ref e0, .ref e1, .ref e2, .ref e3, .ref e4, .int oc, .ref e5, .ref e6])), (e0, .inl (cyI, 40, .inl so)), (e1, .inl (cyZ, 40, .inl fi)), (e2, .inl (cyI, 40, .inl el)), (e3, .inl (cyI, 120, .inl av)), (e4, .inl (cyZ, 1600, .inl un)), (e5, .inl (cyI, 60, .inl kp)), (e6, .inl (cyJ, 60, .inr (.inl bt)))] hs) [(h3, .inr (5, [.int u, .int ty, .ref e0, .ref e1, .ref e2, .ref e3, .ref e4, .int oc, .ref e5, .ref e6])), (e0, .inl (cyI, 40, .inl so)), (e1, .inl (cyZ, 40, .inl fi)), (e2, .inl (cyI, 40, .inl el)), (e3, .inl (cyI, 120, .inl av)), (e4, .inl (cyZ, 1600, .inl un)), (e5, .inl (cyI, 60, .inl kp)), (e6, .inl (cyJ, 60, .inr (.inl bt)))] t) (va_A [(h3, .inr (5, [.int th, .int ty, .ref e0, .ref e1, .ref e2, .ref e3, .ref e4, .int oc, .ref e5, .ref e6])), (e0, .inl (cyI, 40, .inl so)), (e1, .inl (cyZ, 40, .inl fi)), (e2, .inl (cyI, 40, .inl el)), (e3, .inl (cyI, 120, .inl av)), (e4, .inl (cyZ, 1600, .inl un)), (e5, .inl (cyI, 60, .inl kp)), (e6, .inl (cyJ, 60, .inr (.inl bt)))] hs)) 0 0 (va_A [(h3, .inr (5, [.int th, .int ty, .ref e0, .ref e1, .ref e2, .ref e3, .ref e4, .int oc, .ref e5, .ref e6])), (e0, .inl (cyI, 40, .inl so)), (e1, .inl (cyZ, 40, .inl fi)), (e2, .inl (cyI, 40, .inl el)), (e3, .inl (cyI, 120, .inl av)), (e4, .inl (cyZ, 1600, .inl un)), (e5, .inl (cyI, 60, .inl kp)), (e6, .inl (cyJ, 60, .inr (.inl bt)))] hs) := by
  refine Met.ofW (cc := cX3_conditional) (maxL := 7) (ret := (some .int)) (by decide) rfl ?_
  intro p e s m args below meth c s₁ B hml hv
  obtain ⟨rfl, hsz, hP, hK, hD0⟩ := hv
  have hx := B.exec
  have hb := B.bytes
  have hr := B.returns
  have hts := atoms_spec (ws := wsX3_conditional) B.pre
  have hown : s.vm.findClass RX3 = some m.cls := findClass_of_methodNamed B.named
  have hlocks := B.notSynchronized
  subst hsz
  have hD := hD0.self (sz := s.heap.size)
  generalize hAe : va_A [(h3, .inr (5, [.int th, .int ty, .ref e0, .ref e1, .ref e2, .ref e3, .ref e4, .int oc, .ref e5, .ref e6])), (e0, .inl (cyI, 40, .inl so)), (e1, .inl (cyZ, 40, .inl fi)), (e2, .inl (cyI, 40, .inl el)), (e3, .inl (cyI, 120, .inl av)), (e4, .inl (cyZ, 1600, .inl un)), (e5, .inl (cyI, 60, .inl kp)), (e6, .inl (cyJ, 60, .inr (.inl bt)))] s.heap.size = A at hD ⊢
  have hA : ∀ q : Nat, s.heap.size ≤ q → A q := fun q h => by rw [← hAe]; exact Or.inr h
  have hS : va_S A s.heap s.heap [] := va_S.rf
  have hP : va_P (dC, dI) vwCl [(h3, .inr (5, [.int th, .int ty, .ref e0, .ref e1, .ref e2, .ref e3, .ref e4, .int oc, .ref e5, .ref e6])), (e0, .inl (cyI, 40, .inl so)), (e1, .inl (cyZ, 40, .inl fi)), (e2, .inl (cyI, 40, .inl el)), (e3, .inl (cyI, 120, .inl av)), (e4, .inl (cyZ, 1600, .inl un)), (e5, .inl (cyI, 60, .inl kp)), (e6, .inl (cyJ, 60, .inr (.inl bt)))] s.heap := hP
  have hP0 : va_P (dC, dI) vwCl [] s.heap := fun k q h => by simp at h
  have hin_X3 : ∀ w ∈ wsX30, w ∈ wsX3_conditional := by decide +kernel
  have hf_23 := hts (.fieldLink RX3 23 "ConversionTablesModel" "under" "[Z") (by decide +kernel)
  have hf_40 := hts (.fieldLink RX3 40 "ConversionTablesModel" "thrown" "I") (by decide +kernel)
  have K_159 : ∀ (sa : Int32) (ta : Int32) (th2 : Int32) (H : Heap) (locs : List Loc) (ls : Array Slot) (g5 : vp_in sa 40) (g6 : vp_in ta 40), va_P (dC, dI) vwCl [(h3, .inr (5, [.int th2, .int ty, .ref e0, .ref e1, .ref e2, .ref e3, .ref e4, .int oc, .ref e5, .ref e6])), (e0, .inl (cyI, 40, .inl so)), (e1, .inl (cyZ, 40, .inl fi)), (e2, .inl (cyI, 40, .inl el)), (e3, .inl (cyI, 120, .inl av)), (e4, .inl (cyZ, 1600, .inl un)), (e5, .inl (cyI, 60, .inl kp)), (e6, .inl (cyJ, 60, .inr (.inl bt)))] H → va_D A [(h3, .inr (5, [.int th2, .int ty, .ref e0, .ref e1, .ref e2, .ref e3, .ref e4, .int oc, .ref e5, .ref e6])), (e0, .inl (cyI, 40, .inl so)), (e1, .inl (cyZ, 40, .inl fi)), (e2, .inl (cyI, 40, .inl el)), (e3, .inl (cyI, 120, .inl av)), (e4, .inl (cyZ, 1600, .inl un)), (e5, .inl (cyI, 60, .inl kp)), (e6, .inl (cyJ, 60, .inr (.inl bt)))] → va_S A s.heap H locs → lv_has ls 7 [(0, .ref h3), (5, .int sa)] → f_X3_conditional th so fi el av un ty kp bt oc x1 x2 = f_X3_conditional_159 th so fi el av un ty kp bt oc x1 x2 sa ta th2 → W p l e (headSpec wsX3_conditional ({ frames := 3, cells := 0, slots := 0, locals := 63 })).room s m ([.ref h3, .int x1, .int x2] : List Value).toArray below meth c H locs 0 0 (MQ below (va_Qi (S := ((Int32))) (fun r u => (r, u) = f_X3_conditional th so fi el av un ty kp bt oc x1 x2) (fun u t => mb_at dC dI cyI cyZ cyJ A [(h3, .inr (5, [.int u, .int ty, .ref e0, .ref e1, .ref e2, .ref e3, .ref e4, .int oc, .ref e5, .ref e6])), (e0, .inl (cyI, 40, .inl so)), (e1, .inl (cyZ, 40, .inl fi)), (e2, .inl (cyI, 40, .inl el)), (e3, .inl (cyI, 120, .inl av)), (e4, .inl (cyZ, 1600, .inl un)), (e5, .inl (cyI, 60, .inl kp)), (e6, .inl (cyJ, 60, .inr (.inl bt)))] t) A) ([.ref h3, .int x1, .int x2] : List Value).toArray s 0 0 A) (F0 m 159 ls [.int ta]) := by
    intro sa ta th2 H locs ls g5 g6 hP hD hS hl hz
    refine lv_istore (lv' := [(6, .int ta), (0, .ref h3), (5, .int sa)]) hx hb dX3_conditional_159 hl (by decide) rfl (fun ls hl => ?_)
    refine lv_aload_n hx hb dX3_conditional_161 rfl (lv_at hl 1 rfl) ?_
    refine va_get (D := (dC, dI)) (ci := 5) (v := .ref e4) (C := RX3) (T := TX3) (N := 10) hx hb hts hin_X3 hown hK hP 0 rfl rfl 6 (by decide) hf_23 (fun _ h9 => h9) rfl dX3_conditional_162 ?_
    refine lv_bipush (v := (40 : Int32)) hx hb dX3_conditional_165 (by decide) ?_
    refine lv_iload hx hb dX3_conditional_167 (lv_at hl 2 rfl) ?_
    refine lv_imul hx hb dX3_conditional_169 ?_
    refine lv_iload hx hb dX3_conditional_170 (lv_at hl 0 rfl) ?_
    refine lv_iadd hx hb dX3_conditional_172 ?_
    refine va_zald hx hb hK hP 5 1 rfl rfl (mb_ixv g5 g6) dX3_conditional_173 ?_
    refine lv_if_eq (tgt := 182) hx hb dX3_conditional_174 (by decide) (fun c_1 => ?_) (fun c_1 => ?_)
    · refine lv_aload_n hx hb dX3_conditional_182 rfl (lv_at hl 1 rfl) ?_
      refine va_get (D := (dC, dI)) (ci := 5) (v := .ref e4) (C := RX3) (T := TX3) (N := 10) hx hb hts hin_X3 hown hK hP 0 rfl rfl 6 (by decide) hf_23 (fun _ h9 => h9) rfl dX3_conditional_183 ?_
      refine lv_bipush (v := (40 : Int32)) hx hb dX3_conditional_186 (by decide) ?_
      refine lv_iload hx hb dX3_conditional_188 (lv_at hl 0 rfl) ?_
      refine lv_imul hx hb dX3_conditional_190 ?_
      refine lv_iload hx hb dX3_conditional_191 (lv_at hl 2 rfl) ?_
      refine lv_iadd hx hb dX3_conditional_193 ?_
      refine va_zald hx hb hK hP 5 1 rfl rfl (mb_ixv g6 g5) dX3_conditional_194 ?_
      refine lv_if_eq (tgt := 203) hx hb dX3_conditional_195 (by decide) (fun c_2 => ?_) (fun c_2 => ?_)
      · refine lv_bipush (v := (16 : Int32)) hx hb dX3_conditional_203 (by decide) ?_
        exact W.iret (v := (16 : Int32)) hx hb hr (fun t ht hW => ⟨⟨(16 : Int32), th2, rfl, Eq.symm (hz.trans ((if_pos c_1).trans ((if_pos c_2).trans (rfl)))), by rw [ht]; exact hP, va_K.moved hW.alike hK, hD⟩, hS.F ht⟩) hS.2.2 dX3_conditional_205
      · refine lv_iload hx hb dX3_conditional_198 (lv_at hl 2 rfl) ?_
        refine lv_goto (tgt := 205) hx hb dX3_conditional_200 (by decide) ?_
        exact W.iret (v := sa) hx hb hr (fun t ht hW => ⟨⟨sa, th2, rfl, Eq.symm (hz.trans ((if_pos c_1).trans ((if_neg c_2).trans (rfl)))), by rw [ht]; exact hP, va_K.moved hW.alike hK, hD⟩, hS.F ht⟩) hS.2.2 dX3_conditional_205
    · refine lv_iload hx hb dX3_conditional_177 (lv_at hl 0 rfl) ?_
      refine lv_goto (tgt := 205) hx hb dX3_conditional_179 (by decide) ?_
      exact W.iret (v := ta) hx hb hr (fun t ht hW => ⟨⟨ta, th2, rfl, Eq.symm (hz.trans ((if_neg c_1).trans (rfl))), by rw [ht]; exact hP, va_K.moved hW.alike hK, hD⟩, hS.F ht⟩) hS.2.2 dX3_conditional_205
  have K_143 : ∀ (sa : Int32) (th2 : Int32) (H : Heap) (locs : List Loc) (ls : Array Slot) (g5 : vp_in sa 40) (g2 : vp_in x2 40), va_P (dC, dI) vwCl [(h3, .inr (5, [.int th2, .int ty, .ref e0, .ref e1, .ref e2, .ref e3, .ref e4, .int oc, .ref e5, .ref e6])), (e0, .inl (cyI, 40, .inl so)), (e1, .inl (cyZ, 40, .inl fi)), (e2, .inl (cyI, 40, .inl el)), (e3, .inl (cyI, 120, .inl av)), (e4, .inl (cyZ, 1600, .inl un)), (e5, .inl (cyI, 60, .inl kp)), (e6, .inl (cyJ, 60, .inr (.inl bt)))] H → va_D A [(h3, .inr (5, [.int th2, .int ty, .ref e0, .ref e1, .ref e2, .ref e3, .ref e4, .int oc, .ref e5, .ref e6])), (e0, .inl (cyI, 40, .inl so)), (e1, .inl (cyZ, 40, .inl fi)), (e2, .inl (cyI, 40, .inl el)), (e3, .inl (cyI, 120, .inl av)), (e4, .inl (cyZ, 1600, .inl un)), (e5, .inl (cyI, 60, .inl kp)), (e6, .inl (cyJ, 60, .inr (.inl bt)))] → va_S A s.heap H locs → lv_has ls 7 [(0, .ref h3), (2, .int x2)] → f_X3_conditional th so fi el av un ty kp bt oc x1 x2 = f_X3_conditional_143 th so fi el av un ty kp bt oc x1 x2 sa th2 → W p l e (headSpec wsX3_conditional ({ frames := 3, cells := 0, slots := 0, locals := 63 })).room s m ([.ref h3, .int x1, .int x2] : List Value).toArray below meth c H locs 0 0 (MQ below (va_Qi (S := ((Int32))) (fun r u => (r, u) = f_X3_conditional th so fi el av un ty kp bt oc x1 x2) (fun u t => mb_at dC dI cyI cyZ cyJ A [(h3, .inr (5, [.int u, .int ty, .ref e0, .ref e1, .ref e2, .ref e3, .ref e4, .int oc, .ref e5, .ref e6])), (e0, .inl (cyI, 40, .inl so)), (e1, .inl (cyZ, 40, .inl fi)), (e2, .inl (cyI, 40, .inl el)), (e3, .inl (cyI, 120, .inl av)), (e4, .inl (cyZ, 1600, .inl un)), (e5, .inl (cyI, 60, .inl kp)), (e6, .inl (cyJ, 60, .inr (.inl bt)))] t) A) ([.ref h3, .int x1, .int x2] : List Value).toArray s 0 0 A) (F0 m 143 ls [.int sa]) := by
    intro sa th2 H locs ls g5 g2 hP hD hS hl hz
    refine lv_istore (lv' := [(5, .int sa), (0, .ref h3), (2, .int x2)]) hx hb dX3_conditional_143 hl (by decide) rfl (fun ls hl => ?_)
    refine lv_iload_n hx hb dX3_conditional_145 rfl (lv_at hl 2 rfl) ?_
    refine lv_bipush (v := (8 : Int32)) hx hb dX3_conditional_146 (by decide) ?_
    refine lv_icmp_ge (tgt := 158) hx hb dX3_conditional_148 (by decide) (fun c_3 => ?_) (fun c_3 => ?_)
    · refine lv_iload_n hx hb dX3_conditional_158 rfl (lv_at hl 2 rfl) ?_
      exact K_159 sa x2 th2 _ _ ls (g5) (g2) hP hD hS (lv_sub hl [1, 0] rfl) (hz.trans ((if_pos c_3).trans (rfl)))
    · refine lv_iload_n hx hb dX3_conditional_151 rfl (lv_at hl 2 rfl) ?_
      refine lv_bipush (v := (8 : Int32)) hx hb dX3_conditional_152 (by decide) ?_
      refine lv_iadd hx hb dX3_conditional_154 ?_
      refine lv_goto (tgt := 159) hx hb dX3_conditional_155 (by decide) ?_
      exact K_159 sa (x2 + (8 : Int32)) th2 _ _ ls (g5) (mb_add8 g2 c_3) hP hD hS (lv_sub hl [1, 0] rfl) (hz.trans ((if_neg c_3).trans (rfl)))
  have K_129 : ∀ (th2 : Int32) (H : Heap) (locs : List Loc) (ls : Array Slot) (g1 : vp_in x1 40) (g2 : vp_in x2 40), va_P (dC, dI) vwCl [(h3, .inr (5, [.int th2, .int ty, .ref e0, .ref e1, .ref e2, .ref e3, .ref e4, .int oc, .ref e5, .ref e6])), (e0, .inl (cyI, 40, .inl so)), (e1, .inl (cyZ, 40, .inl fi)), (e2, .inl (cyI, 40, .inl el)), (e3, .inl (cyI, 120, .inl av)), (e4, .inl (cyZ, 1600, .inl un)), (e5, .inl (cyI, 60, .inl kp)), (e6, .inl (cyJ, 60, .inr (.inl bt)))] H → va_D A [(h3, .inr (5, [.int th2, .int ty, .ref e0, .ref e1, .ref e2, .ref e3, .ref e4, .int oc, .ref e5, .ref e6])), (e0, .inl (cyI, 40, .inl so)), (e1, .inl (cyZ, 40, .inl fi)), (e2, .inl (cyI, 40, .inl el)), (e3, .inl (cyI, 120, .inl av)), (e4, .inl (cyZ, 1600, .inl un)), (e5, .inl (cyI, 60, .inl kp)), (e6, .inl (cyJ, 60, .inr (.inl bt)))] → va_S A s.heap H locs → lv_has ls 7 [(0, .ref h3), (1, .int x1), (2, .int x2)] → f_X3_conditional th so fi el av un ty kp bt oc x1 x2 = f_X3_conditional_129 th so fi el av un ty kp bt oc x1 x2 th2 → W p l e (headSpec wsX3_conditional ({ frames := 3, cells := 0, slots := 0, locals := 63 })).room s m ([.ref h3, .int x1, .int x2] : List Value).toArray below meth c H locs 0 0 (MQ below (va_Qi (S := ((Int32))) (fun r u => (r, u) = f_X3_conditional th so fi el av un ty kp bt oc x1 x2) (fun u t => mb_at dC dI cyI cyZ cyJ A [(h3, .inr (5, [.int u, .int ty, .ref e0, .ref e1, .ref e2, .ref e3, .ref e4, .int oc, .ref e5, .ref e6])), (e0, .inl (cyI, 40, .inl so)), (e1, .inl (cyZ, 40, .inl fi)), (e2, .inl (cyI, 40, .inl el)), (e3, .inl (cyI, 120, .inl av)), (e4, .inl (cyZ, 1600, .inl un)), (e5, .inl (cyI, 60, .inl kp)), (e6, .inl (cyJ, 60, .inr (.inl bt)))] t) A) ([.ref h3, .int x1, .int x2] : List Value).toArray s 0 0 A) (F0 m 129 ls []) := by
    intro th2 H locs ls g1 g2 hP hD hS hl hz
    refine lv_iload_n hx hb dX3_conditional_129 rfl (lv_at hl 1 rfl) ?_
    refine lv_bipush (v := (8 : Int32)) hx hb dX3_conditional_130 (by decide) ?_
    refine lv_icmp_ge (tgt := 142) hx hb dX3_conditional_132 (by decide) (fun c_4 => ?_) (fun c_4 => ?_)
    · refine lv_iload_n hx hb dX3_conditional_142 rfl (lv_at hl 1 rfl) ?_
      exact K_143 x1 th2 _ _ ls (g1) (g2) hP hD hS (lv_sub hl [0, 2] rfl) (hz.trans ((if_pos c_4).trans (rfl)))
    · refine lv_iload_n hx hb dX3_conditional_135 rfl (lv_at hl 1 rfl) ?_
      refine lv_bipush (v := (8 : Int32)) hx hb dX3_conditional_136 (by decide) ?_
      refine lv_iadd hx hb dX3_conditional_138 ?_
      refine lv_goto (tgt := 143) hx hb dX3_conditional_139 (by decide) ?_
      exact K_143 (x1 + (8 : Int32)) th2 _ _ ls (mb_add8 g1 c_4) (g2) hP hD hS (lv_sub hl [0, 2] rfl) (hz.trans ((if_neg c_4).trans (rfl)))
  have K_69 : ∀ (th2 : Int32) (H : Heap) (locs : List Loc) (ls : Array Slot) (g1 : vp_in x1 40) (g2 : vp_in x2 40), va_P (dC, dI) vwCl [(h3, .inr (5, [.int th2, .int ty, .ref e0, .ref e1, .ref e2, .ref e3, .ref e4, .int oc, .ref e5, .ref e6])), (e0, .inl (cyI, 40, .inl so)), (e1, .inl (cyZ, 40, .inl fi)), (e2, .inl (cyI, 40, .inl el)), (e3, .inl (cyI, 120, .inl av)), (e4, .inl (cyZ, 1600, .inl un)), (e5, .inl (cyI, 60, .inl kp)), (e6, .inl (cyJ, 60, .inr (.inl bt)))] H → va_D A [(h3, .inr (5, [.int th2, .int ty, .ref e0, .ref e1, .ref e2, .ref e3, .ref e4, .int oc, .ref e5, .ref e6])), (e0, .inl (cyI, 40, .inl so)), (e1, .inl (cyZ, 40, .inl fi)), (e2, .inl (cyI, 40, .inl el)), (e3, .inl (cyI, 120, .inl av)), (e4, .inl (cyZ, 1600, .inl un)), (e5, .inl (cyI, 60, .inl kp)), (e6, .inl (cyJ, 60, .inr (.inl bt)))] → va_S A s.heap H locs → lv_has ls 7 [(0, .ref h3), (1, .int x1), (2, .int x2)] → f_X3_conditional th so fi el av un ty kp bt oc x1 x2 = f_X3_conditional_69 th so fi el av un ty kp bt oc x1 x2 th2 → W p l e (headSpec wsX3_conditional ({ frames := 3, cells := 0, slots := 0, locals := 63 })).room s m ([.ref h3, .int x1, .int x2] : List Value).toArray below meth c H locs 0 0 (MQ below (va_Qi (S := ((Int32))) (fun r u => (r, u) = f_X3_conditional th so fi el av un ty kp bt oc x1 x2) (fun u t => mb_at dC dI cyI cyZ cyJ A [(h3, .inr (5, [.int u, .int ty, .ref e0, .ref e1, .ref e2, .ref e3, .ref e4, .int oc, .ref e5, .ref e6])), (e0, .inl (cyI, 40, .inl so)), (e1, .inl (cyZ, 40, .inl fi)), (e2, .inl (cyI, 40, .inl el)), (e3, .inl (cyI, 120, .inl av)), (e4, .inl (cyZ, 1600, .inl un)), (e5, .inl (cyI, 60, .inl kp)), (e6, .inl (cyJ, 60, .inr (.inl bt)))] t) A) ([.ref h3, .int x1, .int x2] : List Value).toArray s 0 0 A) (F0 m 69 ls []) := by
    intro th2 H locs ls g1 g2 hP hD hS hl hz
    refine lv_iload_n hx hb dX3_conditional_69 rfl (lv_at hl 1 rfl) ?_
    refine mb_callSi (W.runS (As := [.int x1]) (rest := []) ⟨hx, hb, hml, hown, hts⟩ (c_X3_numberOf l x1) (va_cwS 1 hts gX3_conditional_X3_numberOf rfl rfl rfl (by decide +kernel) ⟨Nat.le_of_ble_eq_true rfl, Nat.le_of_ble_eq_true rfl⟩) mb_preT rfl rfl hl.1 rfl (lv_room (Nat.le_of_ble_eq_true rfl)) dX3_conditional_70 ⟨Nat.zero_le _, Nat.zero_le _⟩) ?_
    refine lv_istore_n (lv' := [(3, .int (f_X3_numberOf x1)), (0, .ref h3), (1, .int x1), (2, .int x2)]) hx hb dX3_conditional_73 rfl hl (by decide) rfl (fun ls hl => ?_)
    refine lv_iload_n hx hb dX3_conditional_74 rfl (lv_at hl 3 rfl) ?_
    refine mb_callSi (W.runS (As := [.int x2]) (rest := []) ⟨hx, hb, hml, hown, hts⟩ (c_X3_numberOf l x2) (va_cwS 1 hts gX3_conditional_X3_numberOf rfl rfl rfl (by decide +kernel) ⟨Nat.le_of_ble_eq_true rfl, Nat.le_of_ble_eq_true rfl⟩) mb_preT rfl rfl hl.1 rfl (lv_room (Nat.le_of_ble_eq_true rfl)) dX3_conditional_75 ⟨Nat.zero_le _, Nat.zero_le _⟩) ?_
    refine lv_istore (lv' := [(4, .int (f_X3_numberOf x2)), (3, .int (f_X3_numberOf x1)), (0, .ref h3), (1, .int x1), (2, .int x2)]) hx hb dX3_conditional_78 hl (by decide) rfl (fun ls hl => ?_)
    refine lv_iload_n hx hb dX3_conditional_80 rfl (lv_at hl 1 rfl) ?_
    refine lv_if_le (tgt := 129) hx hb dX3_conditional_81 (by decide) (fun c_5 => ?_) (fun c_5 => ?_)
    · exact K_129 th2 _ _ ls (g1) (g2) hP hD hS (lv_sub hl [2, 3, 4] rfl) (hz.trans ((if_pos c_5).trans (rfl)))
    · refine lv_iload hx hb dX3_conditional_84 (lv_at hl 0 rfl) ?_
      refine lv_if_le (tgt := 129) hx hb dX3_conditional_86 (by decide) (fun c_6 => ?_) (fun c_6 => ?_)
      · exact K_129 th2 _ _ ls (g1) (g2) hP hD hS (lv_sub hl [2, 3, 4] rfl) (hz.trans ((if_neg c_5).trans ((if_pos c_6).trans (rfl))))
      · refine lv_iload_n hx hb dX3_conditional_89 rfl (lv_at hl 1 rfl) ?_
        refine lv_iload hx hb dX3_conditional_90 (lv_at hl 0 rfl) ?_
        refine lv_icmp_ne (tgt := 99) hx hb dX3_conditional_92 (by decide) (fun c_7 => ?_) (fun c_7 => ?_)
        · refine lv_iload_n hx hb dX3_conditional_99 rfl (lv_at hl 1 rfl) ?_
          refine lv_iconst (v := (2 : Int32)) hx hb dX3_conditional_100 (by decide) ?_
          refine lv_iconst (v := (3 : Int32)) hx hb dX3_conditional_101 (by decide) ?_
          refine mb_callSi (W.runS (As := [.int (f_X3_numberOf x1), .int (2 : Int32), .int (3 : Int32)]) (rest := []) ⟨hx, hb, hml, hown, hts⟩ (c_X3_in l (f_X3_numberOf x1) (2 : Int32) (3 : Int32)) (va_cwS 3 hts gX3_conditional_X3_in rfl rfl rfl (by decide +kernel) ⟨Nat.le_of_ble_eq_true rfl, Nat.le_of_ble_eq_true rfl⟩) mb_preT rfl rfl hl.1 rfl (lv_room (Nat.le_of_ble_eq_true rfl)) dX3_conditional_102 ⟨Nat.zero_le _, Nat.zero_le _⟩) ?_
          refine lv_if_eq (tgt := 122) hx hb dX3_conditional_105 (by decide) (fun c_8 => ?_) (fun c_8 => ?_)
          · refine lv_iload_n hx hb dX3_conditional_122 rfl (lv_at hl 1 rfl) ?_
            refine lv_iload hx hb dX3_conditional_123 (lv_at hl 0 rfl) ?_
            refine mb_callSi (W.runS (As := [.int (f_X3_numberOf x1), .int (f_X3_numberOf x2)]) (rest := []) ⟨hx, hb, hml, hown, hts⟩ (c_X3_bothOf l (f_X3_numberOf x1) (f_X3_numberOf x2)) (va_cwS 2 hts gX3_conditional_X3_bothOf rfl rfl rfl (by decide +kernel) ⟨Nat.le_of_ble_eq_true rfl, Nat.le_of_ble_eq_true rfl⟩) mb_preT rfl rfl hl.1 rfl (lv_room (Nat.le_of_ble_eq_true rfl)) dX3_conditional_125 ⟨Nat.zero_le _, Nat.zero_le _⟩) ?_
            exact W.iret (v := (f_X3_bothOf (f_X3_numberOf x1) (f_X3_numberOf x2))) hx hb hr (fun t ht hW => ⟨⟨(f_X3_bothOf (f_X3_numberOf x1) (f_X3_numberOf x2)), th2, rfl, Eq.symm (hz.trans ((if_neg c_5).trans ((if_neg c_6).trans ((if_neg c_7).trans ((if_pos c_8).trans (rfl)))))), by rw [ht]; exact hP, va_K.moved hW.alike hK, hD⟩, hS.F ht⟩) hS.2.2 dX3_conditional_128
          · refine lv_iload hx hb dX3_conditional_108 (lv_at hl 0 rfl) ?_
            refine lv_iconst (v := (2 : Int32)) hx hb dX3_conditional_110 (by decide) ?_
            refine lv_iconst (v := (3 : Int32)) hx hb dX3_conditional_111 (by decide) ?_
            refine mb_callSi (W.runS (As := [.int (f_X3_numberOf x2), .int (2 : Int32), .int (3 : Int32)]) (rest := []) ⟨hx, hb, hml, hown, hts⟩ (c_X3_in l (f_X3_numberOf x2) (2 : Int32) (3 : Int32)) (va_cwS 3 hts gX3_conditional_X3_in rfl rfl rfl (by decide +kernel) ⟨Nat.le_of_ble_eq_true rfl, Nat.le_of_ble_eq_true rfl⟩) mb_preT rfl rfl hl.1 rfl (lv_room (Nat.le_of_ble_eq_true rfl)) dX3_conditional_112 ⟨Nat.zero_le _, Nat.zero_le _⟩) ?_
            refine lv_if_eq (tgt := 122) hx hb dX3_conditional_115 (by decide) (fun c_9 => ?_) (fun c_9 => ?_)
            · refine lv_iload_n hx hb dX3_conditional_122 rfl (lv_at hl 1 rfl) ?_
              refine lv_iload hx hb dX3_conditional_123 (lv_at hl 0 rfl) ?_
              refine mb_callSi (W.runS (As := [.int (f_X3_numberOf x1), .int (f_X3_numberOf x2)]) (rest := []) ⟨hx, hb, hml, hown, hts⟩ (c_X3_bothOf l (f_X3_numberOf x1) (f_X3_numberOf x2)) (va_cwS 2 hts gX3_conditional_X3_bothOf rfl rfl rfl (by decide +kernel) ⟨Nat.le_of_ble_eq_true rfl, Nat.le_of_ble_eq_true rfl⟩) mb_preT rfl rfl hl.1 rfl (lv_room (Nat.le_of_ble_eq_true rfl)) dX3_conditional_125 ⟨Nat.zero_le _, Nat.zero_le _⟩) ?_
              exact W.iret (v := (f_X3_bothOf (f_X3_numberOf x1) (f_X3_numberOf x2))) hx hb hr (fun t ht hW => ⟨⟨(f_X3_bothOf (f_X3_numberOf x1) (f_X3_numberOf x2)), th2, rfl, Eq.symm (hz.trans ((if_neg c_5).trans ((if_neg c_6).trans ((if_neg c_7).trans ((if_neg c_8).trans ((if_pos c_9).trans (rfl))))))), by rw [ht]; exact hP, va_K.moved hW.alike hK, hD⟩, hS.F ht⟩) hS.2.2 dX3_conditional_128
            · refine lv_iconst (v := (3 : Int32)) hx hb dX3_conditional_118 (by decide) ?_
              refine lv_goto (tgt := 128) hx hb dX3_conditional_119 (by decide) ?_
              exact W.iret (v := (3 : Int32)) hx hb hr (fun t ht hW => ⟨⟨(3 : Int32), th2, rfl, Eq.symm (hz.trans ((if_neg c_5).trans ((if_neg c_6).trans ((if_neg c_7).trans ((if_neg c_8).trans ((if_neg c_9).trans (rfl))))))), by rw [ht]; exact hP, va_K.moved hW.alike hK, hD⟩, hS.F ht⟩) hS.2.2 dX3_conditional_128
        · refine lv_iload_n hx hb dX3_conditional_95 rfl (lv_at hl 1 rfl) ?_
          refine lv_goto (tgt := 128) hx hb dX3_conditional_96 (by decide) ?_
          exact W.iret (v := (f_X3_numberOf x1)) hx hb hr (fun t ht hW => ⟨⟨(f_X3_numberOf x1), th2, rfl, Eq.symm (hz.trans ((if_neg c_5).trans ((if_neg c_6).trans ((if_pos c_7).trans (rfl))))), by rw [ht]; exact hP, va_K.moved hW.alike hK, hD⟩, hS.F ht⟩) hS.2.2 dX3_conditional_128
  have K_58 : ∀ (th2 : Int32) (H : Heap) (locs : List Loc) (ls : Array Slot) , va_P (dC, dI) vwCl [(h3, .inr (5, [.int th2, .int ty, .ref e0, .ref e1, .ref e2, .ref e3, .ref e4, .int oc, .ref e5, .ref e6])), (e0, .inl (cyI, 40, .inl so)), (e1, .inl (cyZ, 40, .inl fi)), (e2, .inl (cyI, 40, .inl el)), (e3, .inl (cyI, 120, .inl av)), (e4, .inl (cyZ, 1600, .inl un)), (e5, .inl (cyI, 60, .inl kp)), (e6, .inl (cyJ, 60, .inr (.inl bt)))] H → va_D A [(h3, .inr (5, [.int th2, .int ty, .ref e0, .ref e1, .ref e2, .ref e3, .ref e4, .int oc, .ref e5, .ref e6])), (e0, .inl (cyI, 40, .inl so)), (e1, .inl (cyZ, 40, .inl fi)), (e2, .inl (cyI, 40, .inl el)), (e3, .inl (cyI, 120, .inl av)), (e4, .inl (cyZ, 1600, .inl un)), (e5, .inl (cyI, 60, .inl kp)), (e6, .inl (cyJ, 60, .inr (.inl bt)))] → va_S A s.heap H locs → lv_has ls 7 [(0, .ref h3), (1, .int x1), (2, .int x2)] → f_X3_conditional th so fi el av un ty kp bt oc x1 x2 = f_X3_conditional_58 th so fi el av un ty kp bt oc x1 x2 th2 → W p l e (headSpec wsX3_conditional ({ frames := 3, cells := 0, slots := 0, locals := 63 })).room s m ([.ref h3, .int x1, .int x2] : List Value).toArray below meth c H locs 0 0 (MQ below (va_Qi (S := ((Int32))) (fun r u => (r, u) = f_X3_conditional th so fi el av un ty kp bt oc x1 x2) (fun u t => mb_at dC dI cyI cyZ cyJ A [(h3, .inr (5, [.int u, .int ty, .ref e0, .ref e1, .ref e2, .ref e3, .ref e4, .int oc, .ref e5, .ref e6])), (e0, .inl (cyI, 40, .inl so)), (e1, .inl (cyZ, 40, .inl fi)), (e2, .inl (cyI, 40, .inl el)), (e3, .inl (cyI, 120, .inl av)), (e4, .inl (cyZ, 1600, .inl un)), (e5, .inl (cyI, 60, .inl kp)), (e6, .inl (cyJ, 60, .inr (.inl bt)))] t) A) ([.ref h3, .int x1, .int x2] : List Value).toArray s 0 0 A) (F0 m 58 ls []) := by
    intro th2 H locs ls  hP hD hS hl hz
    refine lv_iload_n hx hb dX3_conditional_58 rfl (lv_at hl 1 rfl) ?_
    refine lv_iload_n hx hb dX3_conditional_59 rfl (lv_at hl 2 rfl) ?_
    refine lv_icmp_ge (tgt := 67) hx hb dX3_conditional_60 (by decide) (fun c_10 => ?_) (fun c_10 => ?_)
    · refine lv_iload_n hx hb dX3_conditional_67 rfl (lv_at hl 2 rfl) ?_
      exact W.iret (v := x2) hx hb hr (fun t ht hW => ⟨⟨x2, th2, rfl, Eq.symm (hz.trans ((if_pos c_10).trans (rfl))), by rw [ht]; exact hP, va_K.moved hW.alike hK, hD⟩, hS.F ht⟩) hS.2.2 dX3_conditional_68
    · refine lv_iload_n hx hb dX3_conditional_63 rfl (lv_at hl 1 rfl) ?_
      refine lv_goto (tgt := 68) hx hb dX3_conditional_64 (by decide) ?_
      exact W.iret (v := x1) hx hb hr (fun t ht hW => ⟨⟨x1, th2, rfl, Eq.symm (hz.trans ((if_neg c_10).trans (rfl))), by rw [ht]; exact hP, va_K.moved hW.alike hK, hD⟩, hS.F ht⟩) hS.2.2 dX3_conditional_68
  have K_44 : ∀ (th2 : Int32) (H : Heap) (locs : List Loc) (ls : Array Slot) (g1 : vp_in x1 40) (g2 : vp_in x2 40), va_P (dC, dI) vwCl [(h3, .inr (5, [.int th2, .int ty, .ref e0, .ref e1, .ref e2, .ref e3, .ref e4, .int oc, .ref e5, .ref e6])), (e0, .inl (cyI, 40, .inl so)), (e1, .inl (cyZ, 40, .inl fi)), (e2, .inl (cyI, 40, .inl el)), (e3, .inl (cyI, 120, .inl av)), (e4, .inl (cyZ, 1600, .inl un)), (e5, .inl (cyI, 60, .inl kp)), (e6, .inl (cyJ, 60, .inr (.inl bt)))] H → va_D A [(h3, .inr (5, [.int th2, .int ty, .ref e0, .ref e1, .ref e2, .ref e3, .ref e4, .int oc, .ref e5, .ref e6])), (e0, .inl (cyI, 40, .inl so)), (e1, .inl (cyZ, 40, .inl fi)), (e2, .inl (cyI, 40, .inl el)), (e3, .inl (cyI, 120, .inl av)), (e4, .inl (cyZ, 1600, .inl un)), (e5, .inl (cyI, 60, .inl kp)), (e6, .inl (cyJ, 60, .inr (.inl bt)))] → va_S A s.heap H locs → lv_has ls 7 [(0, .ref h3), (1, .int x1), (2, .int x2)] → f_X3_conditional th so fi el av un ty kp bt oc x1 x2 = f_X3_conditional_44 th so fi el av un ty kp bt oc x1 x2 th2 → W p l e (headSpec wsX3_conditional ({ frames := 3, cells := 0, slots := 0, locals := 63 })).room s m ([.ref h3, .int x1, .int x2] : List Value).toArray below meth c H locs 0 0 (MQ below (va_Qi (S := ((Int32))) (fun r u => (r, u) = f_X3_conditional th so fi el av un ty kp bt oc x1 x2) (fun u t => mb_at dC dI cyI cyZ cyJ A [(h3, .inr (5, [.int u, .int ty, .ref e0, .ref e1, .ref e2, .ref e3, .ref e4, .int oc, .ref e5, .ref e6])), (e0, .inl (cyI, 40, .inl so)), (e1, .inl (cyZ, 40, .inl fi)), (e2, .inl (cyI, 40, .inl el)), (e3, .inl (cyI, 120, .inl av)), (e4, .inl (cyZ, 1600, .inl un)), (e5, .inl (cyI, 60, .inl kp)), (e6, .inl (cyJ, 60, .inr (.inl bt)))] t) A) ([.ref h3, .int x1, .int x2] : List Value).toArray s 0 0 A) (F0 m 44 ls []) := by
    intro th2 H locs ls g1 g2 hP hD hS hl hz
    refine lv_iload_n hx hb dX3_conditional_44 rfl (lv_at hl 2 rfl) ?_
    refine lv_bipush (v := (8 : Int32)) hx hb dX3_conditional_45 (by decide) ?_
    refine lv_icmp_ge (tgt := 69) hx hb dX3_conditional_47 (by decide) (fun c_11 => ?_) (fun c_11 => ?_)
    · exact K_69 th2 _ _ ls (g1) (g2) hP hD hS (lv_sub hl [0, 1, 2] rfl) (hz.trans ((if_pos c_11).trans (rfl)))
    · refine lv_iload_n hx hb dX3_conditional_50 rfl (lv_at hl 1 rfl) ?_
      refine lv_iload_n hx hb dX3_conditional_51 rfl (lv_at hl 2 rfl) ?_
      refine lv_bipush (v := (8 : Int32)) hx hb dX3_conditional_52 (by decide) ?_
      refine lv_iadd hx hb dX3_conditional_54 ?_
      refine lv_icmp_ne (tgt := 69) hx hb dX3_conditional_55 (by decide) (fun c_12 => ?_) (fun c_12 => ?_)
      · exact K_69 th2 _ _ ls (g1) (g2) hP hD hS (lv_sub hl [0, 1, 2] rfl) (hz.trans ((if_neg c_11).trans ((if_neg c_12).trans (rfl))))
      · exact K_58 th2 _ _ ls  hP hD hS (lv_sub hl [0, 1, 2] rfl) (hz.trans ((if_neg c_11).trans ((if_pos c_12).trans (rfl))))
  have hl := lv_entry ([.ref h3, .int x1, .int x2]) (n := 7) (Nat.le_of_ble_eq_true rfl)
  rw [lg_entry_eq]
  generalize (lg_sl ([.ref h3, .int x1, .int x2]) ++ List.replicate (7 - (lg_sl ([.ref h3, .int x1, .int x2])).length) Slot.unset).toArray = ls at hl ⊢
  have hl : lv_has ls 7 [(0, .ref h3), (1, .int x1), (2, .int x2)] := hl
  refine lv_aload_n hx hb dX3_conditional_0 rfl (lv_at hl 0 rfl) ?_
  refine lv_iconst (v := (0 : Int32)) hx hb dX3_conditional_1 (by decide) ?_
  refine va_put (D := (dC, dI)) (ci := 5) (v := .int (0 : Int32)) (ty := .int) (C := RX3) (T := TX3) (N := 10) hx hb hts hin_X3 tyX3 tyX3_ok nmX3 hown hK hP hD hS 0 rfl rfl 0 (by decide) hf_40 (fun _ h9 => h9) rfl (by decide +kernel) rfl rfl (Nat.le_of_ble_eq_true rfl) dX3_conditional_2 (fun H locs hP hD hS => ?_)
  have hP : va_P (dC, dI) vwCl [(h3, .inr (5, [.int (0 : Int32), .int ty, .ref e0, .ref e1, .ref e2, .ref e3, .ref e4, .int oc, .ref e5, .ref e6])), (e0, .inl (cyI, 40, .inl so)), (e1, .inl (cyZ, 40, .inl fi)), (e2, .inl (cyI, 40, .inl el)), (e3, .inl (cyI, 120, .inl av)), (e4, .inl (cyZ, 1600, .inl un)), (e5, .inl (cyI, 60, .inl kp)), (e6, .inl (cyJ, 60, .inr (.inl bt)))] H := hP
  have hD : va_D A [(h3, .inr (5, [.int (0 : Int32), .int ty, .ref e0, .ref e1, .ref e2, .ref e3, .ref e4, .int oc, .ref e5, .ref e6])), (e0, .inl (cyI, 40, .inl so)), (e1, .inl (cyZ, 40, .inl fi)), (e2, .inl (cyI, 40, .inl el)), (e3, .inl (cyI, 120, .inl av)), (e4, .inl (cyZ, 1600, .inl un)), (e5, .inl (cyI, 60, .inl kp)), (e6, .inl (cyJ, 60, .inr (.inl bt)))] := hD
  refine lv_aload_n hx hb dX3_conditional_5 rfl (lv_at hl 0 rfl) ?_
  refine lv_iload_n hx hb dX3_conditional_6 rfl (lv_at hl 1 rfl) ?_
  refine mb_callSi (W.runV (As := [.int x1]) (rest := []) ⟨hx, hb, hml, hown, hts⟩ (c_X3_isType l dC dI cyI cyZ cyJ h3 e0 e1 e2 e3 e4 e5 e6 so fi el av un ty kp bt oc (0 : Int32) x1) (cwV 1 hts gX3_conditional_X3_isType rfl rfl rfl (by decide +kernel) ⟨Nat.le_of_ble_eq_true rfl, Nat.le_of_ble_eq_true rfl⟩) (mb_preV hK hP (ci := 5) (q0 := 0) rfl rfl) rfl rfl hl.1 rfl (lv_room (Nat.le_of_ble_eq_true rfl)) dX3_conditional_7 ⟨Nat.zero_le _, Nat.zero_le _⟩) ?_
  refine lv_if_eq (tgt := 21) hx hb dX3_conditional_10 (by decide) (fun c_13 => ?_) (fun c_13 => ?_)
  · refine lv_iconst (v := (-1 : Int32)) hx hb dX3_conditional_21 (by decide) ?_
    exact W.iret (v := (-1 : Int32)) hx hb hr (fun t ht hW => ⟨⟨(-1 : Int32), (0 : Int32), rfl, Eq.symm ((if_pos c_13).trans (rfl)), by rw [ht]; exact hP, va_K.moved hW.alike hK, hD⟩, hS.F ht⟩) hS.2.2 dX3_conditional_22
  · refine lv_aload_n hx hb dX3_conditional_13 rfl (lv_at hl 0 rfl) ?_
    refine lv_iload_n hx hb dX3_conditional_14 rfl (lv_at hl 2 rfl) ?_
    refine mb_callSi (W.runV (As := [.int x2]) (rest := []) ⟨hx, hb, hml, hown, hts⟩ (c_X3_isType l dC dI cyI cyZ cyJ h3 e0 e1 e2 e3 e4 e5 e6 so fi el av un ty kp bt oc (0 : Int32) x2) (cwV 1 hts gX3_conditional_X3_isType rfl rfl rfl (by decide +kernel) ⟨Nat.le_of_ble_eq_true rfl, Nat.le_of_ble_eq_true rfl⟩) (mb_preV hK hP (ci := 5) (q0 := 0) rfl rfl) rfl rfl hl.1 rfl (lv_room (Nat.le_of_ble_eq_true rfl)) dX3_conditional_15 ⟨Nat.zero_le _, Nat.zero_le _⟩) ?_
    refine lv_if_ne (tgt := 23) hx hb dX3_conditional_18 (by decide) (fun c_14 => ?_) (fun c_14 => ?_)
    · refine lv_iload_n hx hb dX3_conditional_23 rfl (lv_at hl 1 rfl) ?_
      refine lv_iload_n hx hb dX3_conditional_24 rfl (lv_at hl 2 rfl) ?_
      refine lv_icmp_ne (tgt := 30) hx hb dX3_conditional_25 (by decide) (fun c_15 => ?_) (fun c_15 => ?_)
      · refine lv_iload_n hx hb dX3_conditional_30 rfl (lv_at hl 1 rfl) ?_
        refine lv_bipush (v := (8 : Int32)) hx hb dX3_conditional_31 (by decide) ?_
        refine lv_icmp_ge (tgt := 44) hx hb dX3_conditional_33 (by decide) (fun c_16 => ?_) (fun c_16 => ?_)
        · exact K_44 (0 : Int32) _ _ ls ((mb_ist gz c_13)) ((mb_ist gz c_14)) hP hD hS (lv_sub hl [0, 1, 2] rfl) ((if_neg c_13).trans ((if_neg c_14).trans ((if_neg c_15).trans ((if_pos c_16).trans (rfl)))))
        · refine lv_iload_n hx hb dX3_conditional_36 rfl (lv_at hl 2 rfl) ?_
          refine lv_iload_n hx hb dX3_conditional_37 rfl (lv_at hl 1 rfl) ?_
          refine lv_bipush (v := (8 : Int32)) hx hb dX3_conditional_38 (by decide) ?_
          refine lv_iadd hx hb dX3_conditional_40 ?_
          refine lv_icmp_eq (tgt := 58) hx hb dX3_conditional_41 (by decide) (fun c_17 => ?_) (fun c_17 => ?_)
          · exact K_58 (0 : Int32) _ _ ls  hP hD hS (lv_sub hl [0, 1, 2] rfl) ((if_neg c_13).trans ((if_neg c_14).trans ((if_neg c_15).trans ((if_neg c_16).trans ((if_pos c_17).trans (rfl))))))
          · exact K_44 (0 : Int32) _ _ ls ((mb_ist gz c_13)) ((mb_ist gz c_14)) hP hD hS (lv_sub hl [0, 1, 2] rfl) ((if_neg c_13).trans ((if_neg c_14).trans ((if_neg c_15).trans ((if_neg c_16).trans ((if_neg c_17).trans (rfl))))))
      · refine lv_iload_n hx hb dX3_conditional_28 rfl (lv_at hl 1 rfl) ?_
        exact W.iret (v := x1) hx hb hr (fun t ht hW => ⟨⟨x1, (0 : Int32), rfl, Eq.symm ((if_neg c_13).trans ((if_neg c_14).trans ((if_pos c_15).trans (rfl)))), by rw [ht]; exact hP, va_K.moved hW.alike hK, hD⟩, hS.F ht⟩) hS.2.2 dX3_conditional_29
    · refine lv_iconst (v := (-1 : Int32)) hx hb dX3_conditional_21 (by decide) ?_
      exact W.iret (v := (-1 : Int32)) hx hb hr (fun t ht hW => ⟨⟨(-1 : Int32), (0 : Int32), rfl, Eq.symm ((if_neg c_13).trans ((if_pos c_14).trans (rfl))), by rw [ht]; exact hP, va_K.moved hW.alike hK, hD⟩, hS.F ht⟩) hS.2.2 dX3_conditional_22
def f_X3_box (th : Int32) (so : Nat → Int32) (fi : Nat → Int32) (el : Nat → Int32) (av : Nat → Int32) (un : Nat → Int32) (ty : Int32) (kp : Nat → Int32) (bt : Nat → Int64) (oc : Int32) (x1 : Int32) (x2 : Int64) : Int32 × ((Int32) × (Nat → Int32) × (Nat → Int64) × (Int32)) := if (f_X3_isType so fi el av un ty kp bt oc x1) = 0 then ((-1 : Int32), (0 : Int32), kp, bt, oc)
  else if (f_X3_isBox x1) = 0 then ((-2 : Int32), (0 : Int32), kp, bt, oc)
  else if (f_X3_isBits (x1 - (8 : Int32)) x2) = 0 then ((-2 : Int32), (0 : Int32), kp, bt, oc)
  else if oc = (60 : Int32) then ((-3 : Int32), (0 : Int32), kp, bt, oc)
  else ((f_X3_keep (0 : Int32) so fi el av un ty kp bt oc x1 (f_X3_one (x1 - (8 : Int32)) x2)).1, (0 : Int32), (f_X3_keep (0 : Int32) so fi el av un ty kp bt oc x1 (f_X3_one (x1 - (8 : Int32)) x2)).2.1, (f_X3_keep (0 : Int32) so fi el av un ty kp bt oc x1 (f_X3_one (x1 - (8 : Int32)) x2)).2.2.1, (f_X3_keep (0 : Int32) so fi el av un ty kp bt oc x1 (f_X3_one (x1 - (8 : Int32)) x2)).2.2.2)
set_option maxHeartbeats 4000000 in
set_option maxRecDepth 100000 in
theorem c_X3_box (l : Launch) (dC : Nat → ClassId) (dI : Nat → Nat → Nat) (cyI cyZ cyJ : ClassId) (h3 e0 e1 e2 e3 e4 e5 e6 : Nat) (th : Int32) (so : Nat → Int32) (fi : Nat → Int32) (el : Nat → Int32) (av : Nat → Int32) (un : Nat → Int32) (ty : Int32) (kp : Nat → Int32) (bt : Nat → Int64) (oc : Int32) (hs : Nat) (x1 : Int32) (x2 : Int64) (gz : 0 ≤ ty.toInt ∧ ty.toInt ≤ 40) (go : 0 ≤ oc.toInt ∧ oc.toInt ≤ 60) : Met l yX3_box wsX3_box ({ frames := 2, cells := 0, slots := 0, locals := 44 }) (va_Pc [.ref h3, .int x1, .long x2] (mb_M (dC, dI) (mb_tys cyI cyZ cyJ) hs [(h3, .inr (5, [.int th, .int ty, .ref e0, .ref e1, .ref e2, .ref e3, .ref e4, .int oc, .ref e5, .ref e6])), (e0, .inl (cyI, 40, .inl so)), (e1, .inl (cyZ, 40, .inl fi)), (e2, .inl (cyI, 40, .inl el)), (e3, .inl (cyI, 120, .inl av)), (e4, .inl (cyZ, 1600, .inl un)), (e5, .inl (cyI, 60, .inl kp)), (e6, .inl (cyJ, 60, .inr (.inl bt)))])) (va_Qi (S := ((Int32) × (Nat → Int32) × (Nat → Int64) × (Int32))) (fun r u => (r, u) = f_X3_box th so fi el av un ty kp bt oc x1 x2) (fun u t => mb_at dC dI cyI cyZ cyJ (va_A [(h3, .inr (5, [.int th, .int ty, .ref e0, .ref e1, .ref e2, .ref e3, .ref e4, .int oc, .ref e5, .ref e6])), (e0, .inl (cyI, 40, .inl so)), (e1, .inl (cyZ, 40, .inl fi)), (e2, .inl (cyI, 40, .inl el)), (e3, .inl (cyI, 120, .inl av)), (e4, .inl (cyZ, 1600, .inl un)), (e5, .inl (cyI, 60, .inl kp)), (e6, .inl (cyJ, 60, .inr (.inl bt)))] hs) [(h3, .inr (5, [.int u.1, .int ty, .ref e0, .ref e1, .ref e2, .ref e3, .ref e4, .int u.2.2.2, .ref e5, .ref e6])), (e0, .inl (cyI, 40, .inl so)), (e1, .inl (cyZ, 40, .inl fi)), (e2, .inl (cyI, 40, .inl el)), (e3, .inl (cyI, 120, .inl av)), (e4, .inl (cyZ, 1600, .inl un)), (e5, .inl (cyI, 60, .inl u.2.1)), (e6, .inl (cyJ, 60, .inr (.inl u.2.2.1)))] t) (va_A [(h3, .inr (5, [.int th, .int ty, .ref e0, .ref e1, .ref e2, .ref e3, .ref e4, .int oc, .ref e5, .ref e6])), (e0, .inl (cyI, 40, .inl so)), (e1, .inl (cyZ, 40, .inl fi)), (e2, .inl (cyI, 40, .inl el)), (e3, .inl (cyI, 120, .inl av)), (e4, .inl (cyZ, 1600, .inl un)), (e5, .inl (cyI, 60, .inl kp)), (e6, .inl (cyJ, 60, .inr (.inl bt)))] hs)) 0 0 (va_A [(h3, .inr (5, [.int th, .int ty, .ref e0, .ref e1, .ref e2, .ref e3, .ref e4, .int oc, .ref e5, .ref e6])), (e0, .inl (cyI, 40, .inl so)), (e1, .inl (cyZ, 40, .inl fi)), (e2, .inl (cyI, 40, .inl el)), (e3, .inl (cyI, 120, .inl av)), (e4, .inl (cyZ, 1600, .inl un)), (e5, .inl (cyI, 60, .inl kp)), (e6, .inl (cyJ, 60, .inr (.inl bt)))] hs) := by
  refine Met.ofW (cc := cX3_box) (maxL := 4) (ret := (some .int)) (by decide) rfl ?_
  intro p e s m args below meth c s₁ B hml hv
  obtain ⟨rfl, hsz, hP, hK, hD0⟩ := hv
  have hx := B.exec
  have hb := B.bytes
  have hr := B.returns
  have hts := atoms_spec (ws := wsX3_box) B.pre
  have hown : s.vm.findClass RX3 = some m.cls := findClass_of_methodNamed B.named
  have hlocks := B.notSynchronized
  subst hsz
  have hD := hD0.self (sz := s.heap.size)
  generalize hAe : va_A [(h3, .inr (5, [.int th, .int ty, .ref e0, .ref e1, .ref e2, .ref e3, .ref e4, .int oc, .ref e5, .ref e6])), (e0, .inl (cyI, 40, .inl so)), (e1, .inl (cyZ, 40, .inl fi)), (e2, .inl (cyI, 40, .inl el)), (e3, .inl (cyI, 120, .inl av)), (e4, .inl (cyZ, 1600, .inl un)), (e5, .inl (cyI, 60, .inl kp)), (e6, .inl (cyJ, 60, .inr (.inl bt)))] s.heap.size = A at hD ⊢
  have hA : ∀ q : Nat, s.heap.size ≤ q → A q := fun q h => by rw [← hAe]; exact Or.inr h
  have hS : va_S A s.heap s.heap [] := va_S.rf
  have hP : va_P (dC, dI) vwCl [(h3, .inr (5, [.int th, .int ty, .ref e0, .ref e1, .ref e2, .ref e3, .ref e4, .int oc, .ref e5, .ref e6])), (e0, .inl (cyI, 40, .inl so)), (e1, .inl (cyZ, 40, .inl fi)), (e2, .inl (cyI, 40, .inl el)), (e3, .inl (cyI, 120, .inl av)), (e4, .inl (cyZ, 1600, .inl un)), (e5, .inl (cyI, 60, .inl kp)), (e6, .inl (cyJ, 60, .inr (.inl bt)))] s.heap := hP
  have hP0 : va_P (dC, dI) vwCl [] s.heap := fun k q h => by simp at h
  have hin_X3 : ∀ w ∈ wsX30, w ∈ wsX3_box := by decide +kernel
  have hf_40 := hts (.fieldLink RX3 40 "ConversionTablesModel" "thrown" "I") (by decide +kernel)
  have hf_168 := hts (.fieldLink RX3 168 "ConversionTablesModel" "objects" "I") (by decide +kernel)
  have hl := lv_entry ([.ref h3, .int x1, .long x2]) (n := 4) (Nat.le_of_ble_eq_true rfl)
  rw [lg_entry_eq]
  generalize (lg_sl ([.ref h3, .int x1, .long x2]) ++ List.replicate (4 - (lg_sl ([.ref h3, .int x1, .long x2])).length) Slot.unset).toArray = ls at hl ⊢
  have hl : lv_has ls 4 [(0, .ref h3), (1, .int x1), (2, .long x2)] := hl
  refine lv_aload_n hx hb dX3_box_0 rfl (lv_at hl 0 rfl) ?_
  refine lv_iconst (v := (0 : Int32)) hx hb dX3_box_1 (by decide) ?_
  refine va_put (D := (dC, dI)) (ci := 5) (v := .int (0 : Int32)) (ty := .int) (C := RX3) (T := TX3) (N := 10) hx hb hts hin_X3 tyX3 tyX3_ok nmX3 hown hK hP hD hS 0 rfl rfl 0 (by decide) hf_40 (fun _ h9 => h9) rfl (by decide +kernel) rfl rfl (Nat.le_of_ble_eq_true rfl) dX3_box_2 (fun H locs hP hD hS => ?_)
  have hP : va_P (dC, dI) vwCl [(h3, .inr (5, [.int (0 : Int32), .int ty, .ref e0, .ref e1, .ref e2, .ref e3, .ref e4, .int oc, .ref e5, .ref e6])), (e0, .inl (cyI, 40, .inl so)), (e1, .inl (cyZ, 40, .inl fi)), (e2, .inl (cyI, 40, .inl el)), (e3, .inl (cyI, 120, .inl av)), (e4, .inl (cyZ, 1600, .inl un)), (e5, .inl (cyI, 60, .inl kp)), (e6, .inl (cyJ, 60, .inr (.inl bt)))] H := hP
  have hD : va_D A [(h3, .inr (5, [.int (0 : Int32), .int ty, .ref e0, .ref e1, .ref e2, .ref e3, .ref e4, .int oc, .ref e5, .ref e6])), (e0, .inl (cyI, 40, .inl so)), (e1, .inl (cyZ, 40, .inl fi)), (e2, .inl (cyI, 40, .inl el)), (e3, .inl (cyI, 120, .inl av)), (e4, .inl (cyZ, 1600, .inl un)), (e5, .inl (cyI, 60, .inl kp)), (e6, .inl (cyJ, 60, .inr (.inl bt)))] := hD
  refine lv_aload_n hx hb dX3_box_5 rfl (lv_at hl 0 rfl) ?_
  refine lv_iload_n hx hb dX3_box_6 rfl (lv_at hl 1 rfl) ?_
  refine mb_callSi (W.runV (As := [.int x1]) (rest := []) ⟨hx, hb, hml, hown, hts⟩ (c_X3_isType l dC dI cyI cyZ cyJ h3 e0 e1 e2 e3 e4 e5 e6 so fi el av un ty kp bt oc (0 : Int32) x1) (cwV 1 hts gX3_box_X3_isType rfl rfl rfl (by decide +kernel) ⟨Nat.le_of_ble_eq_true rfl, Nat.le_of_ble_eq_true rfl⟩) (mb_preV hK hP (ci := 5) (q0 := 0) rfl rfl) rfl rfl hl.1 rfl (lv_room (Nat.le_of_ble_eq_true rfl)) dX3_box_7 ⟨Nat.zero_le _, Nat.zero_le _⟩) ?_
  refine lv_if_ne (tgt := 15) hx hb dX3_box_10 (by decide) (fun c_1 => ?_) (fun c_1 => ?_)
  · refine lv_iload_n hx hb dX3_box_15 rfl (lv_at hl 1 rfl) ?_
    refine mb_callSi (W.runS (As := [.int x1]) (rest := []) ⟨hx, hb, hml, hown, hts⟩ (c_X3_isBox l x1) (va_cwS 1 hts gX3_box_X3_isBox rfl rfl rfl (by decide +kernel) ⟨Nat.le_of_ble_eq_true rfl, Nat.le_of_ble_eq_true rfl⟩) mb_preT rfl rfl hl.1 rfl (lv_room (Nat.le_of_ble_eq_true rfl)) dX3_box_16 ⟨Nat.zero_le _, Nat.zero_le _⟩) ?_
    refine lv_if_eq (tgt := 33) hx hb dX3_box_19 (by decide) (fun c_2 => ?_) (fun c_2 => ?_)
    · refine lv_bipush (v := (-2 : Int32)) hx hb dX3_box_33 (by decide) ?_
      exact W.iret (v := (-2 : Int32)) hx hb hr (fun t ht hW => ⟨⟨(-2 : Int32), ((0 : Int32), kp, bt, oc), rfl, Eq.symm ((if_neg c_1).trans ((if_pos c_2).trans (rfl))), by rw [ht]; exact hP, va_K.moved hW.alike hK, hD⟩, hS.F ht⟩) hS.2.2 dX3_box_35
    · refine lv_iload_n hx hb dX3_box_22 rfl (lv_at hl 1 rfl) ?_
      refine lv_bipush (v := (8 : Int32)) hx hb dX3_box_23 (by decide) ?_
      refine lv_isub hx hb dX3_box_25 ?_
      refine lv_lload_n hx hb dX3_box_26 rfl (lv_at hl 2 rfl) ?_
      refine mb_callSi (W.runS (As := [.int (x1 - (8 : Int32)), .long x2]) (rest := []) ⟨hx, hb, hml, hown, hts⟩ (c_X3_isBits l (x1 - (8 : Int32)) x2) (va_cwS 2 hts gX3_box_X3_isBits rfl rfl rfl (by decide +kernel) ⟨Nat.le_of_ble_eq_true rfl, Nat.le_of_ble_eq_true rfl⟩) mb_preT rfl rfl hl.1 rfl (lv_room (Nat.le_of_ble_eq_true rfl)) dX3_box_27 ⟨Nat.zero_le _, Nat.zero_le _⟩) ?_
      refine lv_if_ne (tgt := 36) hx hb dX3_box_30 (by decide) (fun c_3 => ?_) (fun c_3 => ?_)
      · refine lv_aload_n hx hb dX3_box_36 rfl (lv_at hl 0 rfl) ?_
        refine va_get (D := (dC, dI)) (ci := 5) (v := .int oc) (C := RX3) (T := TX3) (N := 10) hx hb hts hin_X3 hown hK hP 0 rfl rfl 7 (by decide) hf_168 (fun _ h9 => h9) rfl dX3_box_37 ?_
        refine lv_bipush (v := (60 : Int32)) hx hb dX3_box_40 (by decide) ?_
        refine lv_icmp_ne (tgt := 50) hx hb dX3_box_42 (by decide) (fun c_4 => ?_) (fun c_4 => ?_)
        · refine lv_aload_n hx hb dX3_box_50 rfl (lv_at hl 0 rfl) ?_
          refine lv_iload_n hx hb dX3_box_51 rfl (lv_at hl 1 rfl) ?_
          refine lv_iload_n hx hb dX3_box_52 rfl (lv_at hl 1 rfl) ?_
          refine lv_bipush (v := (8 : Int32)) hx hb dX3_box_53 (by decide) ?_
          refine lv_isub hx hb dX3_box_55 ?_
          refine lv_lload_n hx hb dX3_box_56 rfl (lv_at hl 2 rfl) ?_
          refine mb_callSl (W.runS (As := [.int (x1 - (8 : Int32)), .long x2]) (rest := [.int x1, .ref h3]) ⟨hx, hb, hml, hown, hts⟩ (c_X3_one l (x1 - (8 : Int32)) x2) (va_cwS 2 hts gX3_box_X3_one rfl rfl rfl (by decide +kernel) ⟨Nat.le_of_ble_eq_true rfl, Nat.le_of_ble_eq_true rfl⟩) mb_preT rfl rfl hl.1 rfl (lv_room (Nat.le_of_ble_eq_true rfl)) dX3_box_57 ⟨Nat.zero_le _, Nat.zero_le _⟩) ?_
          have hPc := hP.sub (ws' := [(h3, .inr (5, [.int (0 : Int32), .int ty, .ref e0, .ref e1, .ref e2, .ref e3, .ref e4, .int oc, .ref e5, .ref e6])), (e0, .inl (cyI, 40, .inl so)), (e1, .inl (cyZ, 40, .inl fi)), (e2, .inl (cyI, 40, .inl el)), (e3, .inl (cyI, 120, .inl av)), (e4, .inl (cyZ, 1600, .inl un)), (e5, .inl (cyI, 60, .inl kp)), (e6, .inl (cyJ, 60, .inr (.inl bt)))]) [0, 1, 2, 3, 4, 5, 6, 7] rfl
          have hDc := hD.sub (ws' := [(h3, .inr (5, [.int (0 : Int32), .int ty, .ref e0, .ref e1, .ref e2, .ref e3, .ref e4, .int oc, .ref e5, .ref e6])), (e0, .inl (cyI, 40, .inl so)), (e1, .inl (cyZ, 40, .inl fi)), (e2, .inl (cyI, 40, .inl el)), (e3, .inl (cyI, 120, .inl av)), (e4, .inl (cyZ, 1600, .inl un)), (e5, .inl (cyI, 60, .inl kp)), (e6, .inl (cyJ, 60, .inr (.inl bt)))]) [0, 1, 2, 3, 4, 5, 6, 7] (by decide) rfl
          have hFc := va_free (wc := [(h3, .inr (5, [.int (0 : Int32), .int ty, .ref e0, .ref e1, .ref e2, .ref e3, .ref e4, .int oc, .ref e5, .ref e6])), (e0, .inl (cyI, 40, .inl so)), (e1, .inl (cyZ, 40, .inl fi)), (e2, .inl (cyI, 40, .inl el)), (e3, .inl (cyI, 120, .inl av)), (e4, .inl (cyZ, 1600, .inl un)), (e5, .inl (cyI, 60, .inl kp)), (e6, .inl (cyJ, 60, .inr (.inl bt)))]) hD hS hA [0, 1, 2, 3, 4, 5, 6, 7] rfl
          refine mb_calli (va_runV (As := [.int x1, .long (f_X3_one (x1 - (8 : Int32)) x2)]) (rest := []) ⟨hx, hb, hml, hown, hts⟩ (c_X3_keep l dC dI cyI cyZ cyJ h3 e0 e1 e2 e3 e4 e5 e6 (0 : Int32) so fi el av un ty kp bt oc H.size x1 (f_X3_one (x1 - (8 : Int32)) x2) (mb_ocfull go c_4)) (cwV 2 hts gX3_box_X3_keep rfl rfl rfl (by decide +kernel) ⟨Nat.le_of_ble_eq_true rfl, Nat.le_of_ble_eq_true rfl⟩) (mb_preM hK hPc hDc (ci := 5) (q0 := 0) rfl rfl) rfl rfl hl.1 rfl (lv_room (Nat.le_of_ble_eq_true rfl)) dX3_box_60 ⟨Nat.zero_le _, Nat.zero_le _⟩) hS (fun q _ h => hFc q h) hFc (fun tq H locs htq hvmq hBq hk1 hS => ?_)
          obtain ⟨hP1, hK1, hD1⟩ := hBq
          rw [htq] at hP1
          obtain ⟨hP, hD⟩ := va_join (wr := []) (w1 := [(h3, .inr (5, [.int (0 : Int32), .int ty, .ref e0, .ref e1, .ref e2, .ref e3, .ref e4, .int ((f_X3_keep (0 : Int32) so fi el av un ty kp bt oc x1 (f_X3_one (x1 - (8 : Int32)) x2)).2.2.2), .ref e5, .ref e6])), (e0, .inl (cyI, 40, .inl so)), (e1, .inl (cyZ, 40, .inl fi)), (e2, .inl (cyI, 40, .inl el)), (e3, .inl (cyI, 120, .inl av)), (e4, .inl (cyZ, 1600, .inl un)), (e5, .inl (cyI, 60, .inl ((f_X3_keep (0 : Int32) so fi el av un ty kp bt oc x1 (f_X3_one (x1 - (8 : Int32)) x2)).2.1))), (e6, .inl (cyJ, 60, .inr (.inl ((f_X3_keep (0 : Int32) so fi el av un ty kp bt oc x1 (f_X3_one (x1 - (8 : Int32)) x2)).2.2.1))))]) hP hD [0, 1, 2, 3, 4, 5, 6, 7] [] rfl rfl (by decide) (by decide) hk1 hFc hP1 hD1
          have hP : va_P (dC, dI) vwCl [(h3, .inr (5, [.int (0 : Int32), .int ty, .ref e0, .ref e1, .ref e2, .ref e3, .ref e4, .int ((f_X3_keep (0 : Int32) so fi el av un ty kp bt oc x1 (f_X3_one (x1 - (8 : Int32)) x2)).2.2.2), .ref e5, .ref e6])), (e0, .inl (cyI, 40, .inl so)), (e1, .inl (cyZ, 40, .inl fi)), (e2, .inl (cyI, 40, .inl el)), (e3, .inl (cyI, 120, .inl av)), (e4, .inl (cyZ, 1600, .inl un)), (e5, .inl (cyI, 60, .inl ((f_X3_keep (0 : Int32) so fi el av un ty kp bt oc x1 (f_X3_one (x1 - (8 : Int32)) x2)).2.1))), (e6, .inl (cyJ, 60, .inr (.inl ((f_X3_keep (0 : Int32) so fi el av un ty kp bt oc x1 (f_X3_one (x1 - (8 : Int32)) x2)).2.2.1))))] H := hP
          have hD : va_D A [(h3, .inr (5, [.int (0 : Int32), .int ty, .ref e0, .ref e1, .ref e2, .ref e3, .ref e4, .int ((f_X3_keep (0 : Int32) so fi el av un ty kp bt oc x1 (f_X3_one (x1 - (8 : Int32)) x2)).2.2.2), .ref e5, .ref e6])), (e0, .inl (cyI, 40, .inl so)), (e1, .inl (cyZ, 40, .inl fi)), (e2, .inl (cyI, 40, .inl el)), (e3, .inl (cyI, 120, .inl av)), (e4, .inl (cyZ, 1600, .inl un)), (e5, .inl (cyI, 60, .inl ((f_X3_keep (0 : Int32) so fi el av un ty kp bt oc x1 (f_X3_one (x1 - (8 : Int32)) x2)).2.1))), (e6, .inl (cyJ, 60, .inr (.inl ((f_X3_keep (0 : Int32) so fi el av un ty kp bt oc x1 (f_X3_one (x1 - (8 : Int32)) x2)).2.2.1))))] := hD
          exact W.iret (v := (f_X3_keep (0 : Int32) so fi el av un ty kp bt oc x1 (f_X3_one (x1 - (8 : Int32)) x2)).1) hx hb hr (fun t ht hW => ⟨⟨(f_X3_keep (0 : Int32) so fi el av un ty kp bt oc x1 (f_X3_one (x1 - (8 : Int32)) x2)).1, ((0 : Int32), (f_X3_keep (0 : Int32) so fi el av un ty kp bt oc x1 (f_X3_one (x1 - (8 : Int32)) x2)).2.1, (f_X3_keep (0 : Int32) so fi el av un ty kp bt oc x1 (f_X3_one (x1 - (8 : Int32)) x2)).2.2.1, (f_X3_keep (0 : Int32) so fi el av un ty kp bt oc x1 (f_X3_one (x1 - (8 : Int32)) x2)).2.2.2), rfl, Eq.symm ((if_neg c_1).trans ((if_neg c_2).trans ((if_neg c_3).trans ((if_neg c_4).trans (rfl))))), by rw [ht]; exact hP, va_K.moved hW.alike hK, hD⟩, hS.F ht⟩) hS.2.2 dX3_box_63
        · refine lv_bipush (v := (-3 : Int32)) hx hb dX3_box_45 (by decide) ?_
          refine lv_goto (tgt := 63) hx hb dX3_box_47 (by decide) ?_
          exact W.iret (v := (-3 : Int32)) hx hb hr (fun t ht hW => ⟨⟨(-3 : Int32), ((0 : Int32), kp, bt, oc), rfl, Eq.symm ((if_neg c_1).trans ((if_neg c_2).trans ((if_neg c_3).trans ((if_pos c_4).trans (rfl))))), by rw [ht]; exact hP, va_K.moved hW.alike hK, hD⟩, hS.F ht⟩) hS.2.2 dX3_box_63
      · refine lv_bipush (v := (-2 : Int32)) hx hb dX3_box_33 (by decide) ?_
        exact W.iret (v := (-2 : Int32)) hx hb hr (fun t ht hW => ⟨⟨(-2 : Int32), ((0 : Int32), kp, bt, oc), rfl, Eq.symm ((if_neg c_1).trans ((if_neg c_2).trans ((if_pos c_3).trans (rfl)))), by rw [ht]; exact hP, va_K.moved hW.alike hK, hD⟩, hS.F ht⟩) hS.2.2 dX3_box_35
  · refine lv_iconst (v := (-1 : Int32)) hx hb dX3_box_13 (by decide) ?_
    exact W.iret (v := (-1 : Int32)) hx hb hr (fun t ht hW => ⟨⟨(-1 : Int32), ((0 : Int32), kp, bt, oc), rfl, Eq.symm ((if_pos c_1).trans (rfl)), by rw [ht]; exact hP, va_K.moved hW.alike hK, hD⟩, hS.F ht⟩) hS.2.2 dX3_box_14
def f_X3_make_64 (th : Int32) (so : Nat → Int32) (fi : Nat → Int32) (el : Nat → Int32) (av : Nat → Int32) (un : Nat → Int32) (ty : Int32) (kp : Nat → Int32) (bt : Nat → Int64) (oc : Int32) (x1 : Int32) (my : Int32) (th2 : Int32) : Int32 × ((Int32) × (Nat → Int32) × (Nat → Int64) × (Int32)) := if my = 0 then ((-2 : Int32), th2, kp, bt, oc)
  else if oc = (60 : Int32) then ((-3 : Int32), th2, kp, bt, oc)
  else ((f_X3_keep th2 so fi el av un ty kp bt oc x1 (0 : Int64)).1, th2, (f_X3_keep th2 so fi el av un ty kp bt oc x1 (0 : Int64)).2.1, (f_X3_keep th2 so fi el av un ty kp bt oc x1 (0 : Int64)).2.2.1, (f_X3_keep th2 so fi el av un ty kp bt oc x1 (0 : Int64)).2.2.2)
def f_X3_make (th : Int32) (so : Nat → Int32) (fi : Nat → Int32) (el : Nat → Int32) (av : Nat → Int32) (un : Nat → Int32) (ty : Int32) (kp : Nat → Int32) (bt : Nat → Int64) (oc : Int32) (x1 : Int32) : Int32 × ((Int32) × (Nat → Int32) × (Nat → Int64) × (Int32)) := if (f_X3_isType so fi el av un ty kp bt oc x1) = 0 then ((-1 : Int32), (0 : Int32), kp, bt, oc)
  else if x1 = (16 : Int32) then f_X3_make_64 th so fi el av un ty kp bt oc x1 (1 : Int32) (0 : Int32)
  else if x1 = (21 : Int32) then f_X3_make_64 th so fi el av un ty kp bt oc x1 (1 : Int32) (0 : Int32)
  else if x1 = (22 : Int32) then f_X3_make_64 th so fi el av un ty kp bt oc x1 (1 : Int32) (0 : Int32)
  else if x1 ≤ (22 : Int32) then f_X3_make_64 th so fi el av un ty kp bt oc x1 (0 : Int32) (0 : Int32)
  else if (so x1.toNatClampNeg) = (1 : Int32) then f_X3_make_64 th so fi el av un ty kp bt oc x1 (1 : Int32) (0 : Int32)
  else if (so x1.toNatClampNeg) = (3 : Int32) then f_X3_make_64 th so fi el av un ty kp bt oc x1 (1 : Int32) (0 : Int32)
  else f_X3_make_64 th so fi el av un ty kp bt oc x1 (0 : Int32) (0 : Int32)
set_option maxHeartbeats 4000000 in
set_option maxRecDepth 100000 in
theorem c_X3_make (l : Launch) (dC : Nat → ClassId) (dI : Nat → Nat → Nat) (cyI cyZ cyJ : ClassId) (h3 e0 e1 e2 e3 e4 e5 e6 : Nat) (th : Int32) (so : Nat → Int32) (fi : Nat → Int32) (el : Nat → Int32) (av : Nat → Int32) (un : Nat → Int32) (ty : Int32) (kp : Nat → Int32) (bt : Nat → Int64) (oc : Int32) (hs : Nat) (x1 : Int32) (gz : 0 ≤ ty.toInt ∧ ty.toInt ≤ 40) (go : 0 ≤ oc.toInt ∧ oc.toInt ≤ 60) : Met l yX3_make wsX3_make ({ frames := 2, cells := 0, slots := 0, locals := 43 }) (va_Pc [.ref h3, .int x1] (mb_M (dC, dI) (mb_tys cyI cyZ cyJ) hs [(h3, .inr (5, [.int th, .int ty, .ref e0, .ref e1, .ref e2, .ref e3, .ref e4, .int oc, .ref e5, .ref e6])), (e0, .inl (cyI, 40, .inl so)), (e1, .inl (cyZ, 40, .inl fi)), (e2, .inl (cyI, 40, .inl el)), (e3, .inl (cyI, 120, .inl av)), (e4, .inl (cyZ, 1600, .inl un)), (e5, .inl (cyI, 60, .inl kp)), (e6, .inl (cyJ, 60, .inr (.inl bt)))])) (va_Qi (S := ((Int32) × (Nat → Int32) × (Nat → Int64) × (Int32))) (fun r u => (r, u) = f_X3_make th so fi el av un ty kp bt oc x1) (fun u t => mb_at dC dI cyI cyZ cyJ (va_A [(h3, .inr (5, [.int th, .int ty, .ref e0, .ref e1, .ref e2, .ref e3, .ref e4, .int oc, .ref e5, .ref e6])), (e0, .inl (cyI, 40, .inl so)), (e1, .inl (cyZ, 40, .inl fi)), (e2, .inl (cyI, 40, .inl el)), (e3, .inl (cyI, 120, .inl av)), (e4, .inl (cyZ, 1600, .inl un)), (e5, .inl (cyI, 60, .inl kp)), (e6, .inl (cyJ, 60, .inr (.inl bt)))] hs) [(h3, .inr (5, [.int u.1, .int ty, .ref e0, .ref e1, .ref e2, .ref e3, .ref e4, .int u.2.2.2, .ref e5, .ref e6])), (e0, .inl (cyI, 40, .inl so)), (e1, .inl (cyZ, 40, .inl fi)), (e2, .inl (cyI, 40, .inl el)), (e3, .inl (cyI, 120, .inl av)), (e4, .inl (cyZ, 1600, .inl un)), (e5, .inl (cyI, 60, .inl u.2.1)), (e6, .inl (cyJ, 60, .inr (.inl u.2.2.1)))] t) (va_A [(h3, .inr (5, [.int th, .int ty, .ref e0, .ref e1, .ref e2, .ref e3, .ref e4, .int oc, .ref e5, .ref e6])), (e0, .inl (cyI, 40, .inl so)), (e1, .inl (cyZ, 40, .inl fi)), (e2, .inl (cyI, 40, .inl el)), (e3, .inl (cyI, 120, .inl av)), (e4, .inl (cyZ, 1600, .inl un)), (e5, .inl (cyI, 60, .inl kp)), (e6, .inl (cyJ, 60, .inr (.inl bt)))] hs)) 0 0 (va_A [(h3, .inr (5, [.int th, .int ty, .ref e0, .ref e1, .ref e2, .ref e3, .ref e4, .int oc, .ref e5, .ref e6])), (e0, .inl (cyI, 40, .inl so)), (e1, .inl (cyZ, 40, .inl fi)), (e2, .inl (cyI, 40, .inl el)), (e3, .inl (cyI, 120, .inl av)), (e4, .inl (cyZ, 1600, .inl un)), (e5, .inl (cyI, 60, .inl kp)), (e6, .inl (cyJ, 60, .inr (.inl bt)))] hs) := by
  refine Met.ofW (cc := cX3_make) (maxL := 3) (ret := (some .int)) (by decide) rfl ?_
  intro p e s m args below meth c s₁ B hml hv
  obtain ⟨rfl, hsz, hP, hK, hD0⟩ := hv
  have hx := B.exec
  have hb := B.bytes
  have hr := B.returns
  have hts := atoms_spec (ws := wsX3_make) B.pre
  have hown : s.vm.findClass RX3 = some m.cls := findClass_of_methodNamed B.named
  have hlocks := B.notSynchronized
  subst hsz
  have hD := hD0.self (sz := s.heap.size)
  generalize hAe : va_A [(h3, .inr (5, [.int th, .int ty, .ref e0, .ref e1, .ref e2, .ref e3, .ref e4, .int oc, .ref e5, .ref e6])), (e0, .inl (cyI, 40, .inl so)), (e1, .inl (cyZ, 40, .inl fi)), (e2, .inl (cyI, 40, .inl el)), (e3, .inl (cyI, 120, .inl av)), (e4, .inl (cyZ, 1600, .inl un)), (e5, .inl (cyI, 60, .inl kp)), (e6, .inl (cyJ, 60, .inr (.inl bt)))] s.heap.size = A at hD ⊢
  have hA : ∀ q : Nat, s.heap.size ≤ q → A q := fun q h => by rw [← hAe]; exact Or.inr h
  have hS : va_S A s.heap s.heap [] := va_S.rf
  have hP : va_P (dC, dI) vwCl [(h3, .inr (5, [.int th, .int ty, .ref e0, .ref e1, .ref e2, .ref e3, .ref e4, .int oc, .ref e5, .ref e6])), (e0, .inl (cyI, 40, .inl so)), (e1, .inl (cyZ, 40, .inl fi)), (e2, .inl (cyI, 40, .inl el)), (e3, .inl (cyI, 120, .inl av)), (e4, .inl (cyZ, 1600, .inl un)), (e5, .inl (cyI, 60, .inl kp)), (e6, .inl (cyJ, 60, .inr (.inl bt)))] s.heap := hP
  have hP0 : va_P (dC, dI) vwCl [] s.heap := fun k q h => by simp at h
  have hin_X3 : ∀ w ∈ wsX30, w ∈ wsX3_make := by decide +kernel
  have hf_168 := hts (.fieldLink RX3 168 "ConversionTablesModel" "objects" "I") (by decide +kernel)
  have hf_40 := hts (.fieldLink RX3 40 "ConversionTablesModel" "thrown" "I") (by decide +kernel)
  have hf_7 := hts (.fieldLink RX3 7 "ConversionTablesModel" "sort" "[I") (by decide +kernel)
  have K_64 : ∀ (my : Int32) (th2 : Int32) (H : Heap) (locs : List Loc) (ls : Array Slot) , va_P (dC, dI) vwCl [(h3, .inr (5, [.int th2, .int ty, .ref e0, .ref e1, .ref e2, .ref e3, .ref e4, .int oc, .ref e5, .ref e6])), (e0, .inl (cyI, 40, .inl so)), (e1, .inl (cyZ, 40, .inl fi)), (e2, .inl (cyI, 40, .inl el)), (e3, .inl (cyI, 120, .inl av)), (e4, .inl (cyZ, 1600, .inl un)), (e5, .inl (cyI, 60, .inl kp)), (e6, .inl (cyJ, 60, .inr (.inl bt)))] H → va_D A [(h3, .inr (5, [.int th2, .int ty, .ref e0, .ref e1, .ref e2, .ref e3, .ref e4, .int oc, .ref e5, .ref e6])), (e0, .inl (cyI, 40, .inl so)), (e1, .inl (cyZ, 40, .inl fi)), (e2, .inl (cyI, 40, .inl el)), (e3, .inl (cyI, 120, .inl av)), (e4, .inl (cyZ, 1600, .inl un)), (e5, .inl (cyI, 60, .inl kp)), (e6, .inl (cyJ, 60, .inr (.inl bt)))] → va_S A s.heap H locs → lv_has ls 3 [(0, .ref h3), (1, .int x1)] → f_X3_make th so fi el av un ty kp bt oc x1 = f_X3_make_64 th so fi el av un ty kp bt oc x1 my th2 → W p l e (headSpec wsX3_make ({ frames := 2, cells := 0, slots := 0, locals := 43 })).room s m ([.ref h3, .int x1] : List Value).toArray below meth c H locs 0 0 (MQ below (va_Qi (S := ((Int32) × (Nat → Int32) × (Nat → Int64) × (Int32))) (fun r u => (r, u) = f_X3_make th so fi el av un ty kp bt oc x1) (fun u t => mb_at dC dI cyI cyZ cyJ A [(h3, .inr (5, [.int u.1, .int ty, .ref e0, .ref e1, .ref e2, .ref e3, .ref e4, .int u.2.2.2, .ref e5, .ref e6])), (e0, .inl (cyI, 40, .inl so)), (e1, .inl (cyZ, 40, .inl fi)), (e2, .inl (cyI, 40, .inl el)), (e3, .inl (cyI, 120, .inl av)), (e4, .inl (cyZ, 1600, .inl un)), (e5, .inl (cyI, 60, .inl u.2.1)), (e6, .inl (cyJ, 60, .inr (.inl u.2.2.1)))] t) A) ([.ref h3, .int x1] : List Value).toArray s 0 0 A) (F0 m 64 ls [.int my]) := by
    intro my th2 H locs ls  hP hD hS hl hz
    refine lv_istore_n (lv' := [(2, .int my), (0, .ref h3), (1, .int x1)]) hx hb dX3_make_64 rfl hl (by decide) rfl (fun ls hl => ?_)
    refine lv_iload_n hx hb dX3_make_65 rfl (lv_at hl 0 rfl) ?_
    refine lv_if_ne (tgt := 74) hx hb dX3_make_66 (by decide) (fun c_1 => ?_) (fun c_1 => ?_)
    · refine lv_aload_n hx hb dX3_make_74 rfl (lv_at hl 1 rfl) ?_
      refine va_get (D := (dC, dI)) (ci := 5) (v := .int oc) (C := RX3) (T := TX3) (N := 10) hx hb hts hin_X3 hown hK hP 0 rfl rfl 7 (by decide) hf_168 (fun _ h9 => h9) rfl dX3_make_75 ?_
      refine lv_bipush (v := (60 : Int32)) hx hb dX3_make_78 (by decide) ?_
      refine lv_icmp_ne (tgt := 88) hx hb dX3_make_80 (by decide) (fun c_2 => ?_) (fun c_2 => ?_)
      · refine lv_aload_n hx hb dX3_make_88 rfl (lv_at hl 1 rfl) ?_
        refine lv_iload_n hx hb dX3_make_89 rfl (lv_at hl 2 rfl) ?_
        refine lv_lconst (v := (0 : Int64)) hx hb dX3_make_90 (by decide) ?_
        have hPc := hP.sub (ws' := [(h3, .inr (5, [.int th2, .int ty, .ref e0, .ref e1, .ref e2, .ref e3, .ref e4, .int oc, .ref e5, .ref e6])), (e0, .inl (cyI, 40, .inl so)), (e1, .inl (cyZ, 40, .inl fi)), (e2, .inl (cyI, 40, .inl el)), (e3, .inl (cyI, 120, .inl av)), (e4, .inl (cyZ, 1600, .inl un)), (e5, .inl (cyI, 60, .inl kp)), (e6, .inl (cyJ, 60, .inr (.inl bt)))]) [0, 1, 2, 3, 4, 5, 6, 7] rfl
        have hDc := hD.sub (ws' := [(h3, .inr (5, [.int th2, .int ty, .ref e0, .ref e1, .ref e2, .ref e3, .ref e4, .int oc, .ref e5, .ref e6])), (e0, .inl (cyI, 40, .inl so)), (e1, .inl (cyZ, 40, .inl fi)), (e2, .inl (cyI, 40, .inl el)), (e3, .inl (cyI, 120, .inl av)), (e4, .inl (cyZ, 1600, .inl un)), (e5, .inl (cyI, 60, .inl kp)), (e6, .inl (cyJ, 60, .inr (.inl bt)))]) [0, 1, 2, 3, 4, 5, 6, 7] (by decide) rfl
        have hFc := va_free (wc := [(h3, .inr (5, [.int th2, .int ty, .ref e0, .ref e1, .ref e2, .ref e3, .ref e4, .int oc, .ref e5, .ref e6])), (e0, .inl (cyI, 40, .inl so)), (e1, .inl (cyZ, 40, .inl fi)), (e2, .inl (cyI, 40, .inl el)), (e3, .inl (cyI, 120, .inl av)), (e4, .inl (cyZ, 1600, .inl un)), (e5, .inl (cyI, 60, .inl kp)), (e6, .inl (cyJ, 60, .inr (.inl bt)))]) hD hS hA [0, 1, 2, 3, 4, 5, 6, 7] rfl
        refine mb_calli (va_runV (As := [.int x1, .long (0 : Int64)]) (rest := []) ⟨hx, hb, hml, hown, hts⟩ (c_X3_keep l dC dI cyI cyZ cyJ h3 e0 e1 e2 e3 e4 e5 e6 th2 so fi el av un ty kp bt oc H.size x1 (0 : Int64) (mb_ocfull go c_2)) (cwV 2 hts gX3_make_X3_keep rfl rfl rfl (by decide +kernel) ⟨Nat.le_of_ble_eq_true rfl, Nat.le_of_ble_eq_true rfl⟩) (mb_preM hK hPc hDc (ci := 5) (q0 := 0) rfl rfl) rfl rfl hl.1 rfl (lv_room (Nat.le_of_ble_eq_true rfl)) dX3_make_91 ⟨Nat.zero_le _, Nat.zero_le _⟩) hS (fun q _ h => hFc q h) hFc (fun tq H locs htq hvmq hBq hk1 hS => ?_)
        obtain ⟨hP1, hK1, hD1⟩ := hBq
        rw [htq] at hP1
        obtain ⟨hP, hD⟩ := va_join (wr := []) (w1 := [(h3, .inr (5, [.int th2, .int ty, .ref e0, .ref e1, .ref e2, .ref e3, .ref e4, .int ((f_X3_keep th2 so fi el av un ty kp bt oc x1 (0 : Int64)).2.2.2), .ref e5, .ref e6])), (e0, .inl (cyI, 40, .inl so)), (e1, .inl (cyZ, 40, .inl fi)), (e2, .inl (cyI, 40, .inl el)), (e3, .inl (cyI, 120, .inl av)), (e4, .inl (cyZ, 1600, .inl un)), (e5, .inl (cyI, 60, .inl ((f_X3_keep th2 so fi el av un ty kp bt oc x1 (0 : Int64)).2.1))), (e6, .inl (cyJ, 60, .inr (.inl ((f_X3_keep th2 so fi el av un ty kp bt oc x1 (0 : Int64)).2.2.1))))]) hP hD [0, 1, 2, 3, 4, 5, 6, 7] [] rfl rfl (by decide) (by decide) hk1 hFc hP1 hD1
        have hP : va_P (dC, dI) vwCl [(h3, .inr (5, [.int th2, .int ty, .ref e0, .ref e1, .ref e2, .ref e3, .ref e4, .int ((f_X3_keep th2 so fi el av un ty kp bt oc x1 (0 : Int64)).2.2.2), .ref e5, .ref e6])), (e0, .inl (cyI, 40, .inl so)), (e1, .inl (cyZ, 40, .inl fi)), (e2, .inl (cyI, 40, .inl el)), (e3, .inl (cyI, 120, .inl av)), (e4, .inl (cyZ, 1600, .inl un)), (e5, .inl (cyI, 60, .inl ((f_X3_keep th2 so fi el av un ty kp bt oc x1 (0 : Int64)).2.1))), (e6, .inl (cyJ, 60, .inr (.inl ((f_X3_keep th2 so fi el av un ty kp bt oc x1 (0 : Int64)).2.2.1))))] H := hP
        have hD : va_D A [(h3, .inr (5, [.int th2, .int ty, .ref e0, .ref e1, .ref e2, .ref e3, .ref e4, .int ((f_X3_keep th2 so fi el av un ty kp bt oc x1 (0 : Int64)).2.2.2), .ref e5, .ref e6])), (e0, .inl (cyI, 40, .inl so)), (e1, .inl (cyZ, 40, .inl fi)), (e2, .inl (cyI, 40, .inl el)), (e3, .inl (cyI, 120, .inl av)), (e4, .inl (cyZ, 1600, .inl un)), (e5, .inl (cyI, 60, .inl ((f_X3_keep th2 so fi el av un ty kp bt oc x1 (0 : Int64)).2.1))), (e6, .inl (cyJ, 60, .inr (.inl ((f_X3_keep th2 so fi el av un ty kp bt oc x1 (0 : Int64)).2.2.1))))] := hD
        exact W.iret (v := (f_X3_keep th2 so fi el av un ty kp bt oc x1 (0 : Int64)).1) hx hb hr (fun t ht hW => ⟨⟨(f_X3_keep th2 so fi el av un ty kp bt oc x1 (0 : Int64)).1, (th2, (f_X3_keep th2 so fi el av un ty kp bt oc x1 (0 : Int64)).2.1, (f_X3_keep th2 so fi el av un ty kp bt oc x1 (0 : Int64)).2.2.1, (f_X3_keep th2 so fi el av un ty kp bt oc x1 (0 : Int64)).2.2.2), rfl, Eq.symm (hz.trans ((if_neg c_1).trans ((if_neg c_2).trans (rfl)))), by rw [ht]; exact hP, va_K.moved hW.alike hK, hD⟩, hS.F ht⟩) hS.2.2 dX3_make_94
      · refine lv_bipush (v := (-3 : Int32)) hx hb dX3_make_83 (by decide) ?_
        refine lv_goto (tgt := 94) hx hb dX3_make_85 (by decide) ?_
        exact W.iret (v := (-3 : Int32)) hx hb hr (fun t ht hW => ⟨⟨(-3 : Int32), (th2, kp, bt, oc), rfl, Eq.symm (hz.trans ((if_neg c_1).trans ((if_pos c_2).trans (rfl)))), by rw [ht]; exact hP, va_K.moved hW.alike hK, hD⟩, hS.F ht⟩) hS.2.2 dX3_make_94
    · refine lv_bipush (v := (-2 : Int32)) hx hb dX3_make_69 (by decide) ?_
      refine lv_goto (tgt := 94) hx hb dX3_make_71 (by decide) ?_
      exact W.iret (v := (-2 : Int32)) hx hb hr (fun t ht hW => ⟨⟨(-2 : Int32), (th2, kp, bt, oc), rfl, Eq.symm (hz.trans ((if_pos c_1).trans (rfl))), by rw [ht]; exact hP, va_K.moved hW.alike hK, hD⟩, hS.F ht⟩) hS.2.2 dX3_make_94
  have hl := lv_entry ([.ref h3, .int x1]) (n := 3) (Nat.le_of_ble_eq_true rfl)
  rw [lg_entry_eq]
  generalize (lg_sl ([.ref h3, .int x1]) ++ List.replicate (3 - (lg_sl ([.ref h3, .int x1])).length) Slot.unset).toArray = ls at hl ⊢
  have hl : lv_has ls 3 [(0, .ref h3), (1, .int x1)] := hl
  refine lv_aload_n hx hb dX3_make_0 rfl (lv_at hl 0 rfl) ?_
  refine lv_iconst (v := (0 : Int32)) hx hb dX3_make_1 (by decide) ?_
  refine va_put (D := (dC, dI)) (ci := 5) (v := .int (0 : Int32)) (ty := .int) (C := RX3) (T := TX3) (N := 10) hx hb hts hin_X3 tyX3 tyX3_ok nmX3 hown hK hP hD hS 0 rfl rfl 0 (by decide) hf_40 (fun _ h9 => h9) rfl (by decide +kernel) rfl rfl (Nat.le_of_ble_eq_true rfl) dX3_make_2 (fun H locs hP hD hS => ?_)
  have hP : va_P (dC, dI) vwCl [(h3, .inr (5, [.int (0 : Int32), .int ty, .ref e0, .ref e1, .ref e2, .ref e3, .ref e4, .int oc, .ref e5, .ref e6])), (e0, .inl (cyI, 40, .inl so)), (e1, .inl (cyZ, 40, .inl fi)), (e2, .inl (cyI, 40, .inl el)), (e3, .inl (cyI, 120, .inl av)), (e4, .inl (cyZ, 1600, .inl un)), (e5, .inl (cyI, 60, .inl kp)), (e6, .inl (cyJ, 60, .inr (.inl bt)))] H := hP
  have hD : va_D A [(h3, .inr (5, [.int (0 : Int32), .int ty, .ref e0, .ref e1, .ref e2, .ref e3, .ref e4, .int oc, .ref e5, .ref e6])), (e0, .inl (cyI, 40, .inl so)), (e1, .inl (cyZ, 40, .inl fi)), (e2, .inl (cyI, 40, .inl el)), (e3, .inl (cyI, 120, .inl av)), (e4, .inl (cyZ, 1600, .inl un)), (e5, .inl (cyI, 60, .inl kp)), (e6, .inl (cyJ, 60, .inr (.inl bt)))] := hD
  refine lv_aload_n hx hb dX3_make_5 rfl (lv_at hl 0 rfl) ?_
  refine lv_iload_n hx hb dX3_make_6 rfl (lv_at hl 1 rfl) ?_
  refine mb_callSi (W.runV (As := [.int x1]) (rest := []) ⟨hx, hb, hml, hown, hts⟩ (c_X3_isType l dC dI cyI cyZ cyJ h3 e0 e1 e2 e3 e4 e5 e6 so fi el av un ty kp bt oc (0 : Int32) x1) (cwV 1 hts gX3_make_X3_isType rfl rfl rfl (by decide +kernel) ⟨Nat.le_of_ble_eq_true rfl, Nat.le_of_ble_eq_true rfl⟩) (mb_preV hK hP (ci := 5) (q0 := 0) rfl rfl) rfl rfl hl.1 rfl (lv_room (Nat.le_of_ble_eq_true rfl)) dX3_make_7 ⟨Nat.zero_le _, Nat.zero_le _⟩) ?_
  refine lv_if_ne (tgt := 15) hx hb dX3_make_10 (by decide) (fun c_3 => ?_) (fun c_3 => ?_)
  · refine lv_iload_n hx hb dX3_make_15 rfl (lv_at hl 1 rfl) ?_
    refine lv_bipush (v := (16 : Int32)) hx hb dX3_make_16 (by decide) ?_
    refine lv_icmp_eq (tgt := 59) hx hb dX3_make_18 (by decide) (fun c_4 => ?_) (fun c_4 => ?_)
    · refine lv_iconst (v := (1 : Int32)) hx hb dX3_make_59 (by decide) ?_
      refine lv_goto (tgt := 64) hx hb dX3_make_60 (by decide) ?_
      exact K_64 (1 : Int32) (0 : Int32) _ _ ls  hP hD hS (lv_sub hl [0, 1] rfl) ((if_neg c_3).trans ((if_pos c_4).trans (rfl)))
    · refine lv_iload_n hx hb dX3_make_21 rfl (lv_at hl 1 rfl) ?_
      refine lv_bipush (v := (21 : Int32)) hx hb dX3_make_22 (by decide) ?_
      refine lv_icmp_eq (tgt := 59) hx hb dX3_make_24 (by decide) (fun c_5 => ?_) (fun c_5 => ?_)
      · refine lv_iconst (v := (1 : Int32)) hx hb dX3_make_59 (by decide) ?_
        refine lv_goto (tgt := 64) hx hb dX3_make_60 (by decide) ?_
        exact K_64 (1 : Int32) (0 : Int32) _ _ ls  hP hD hS (lv_sub hl [0, 1] rfl) ((if_neg c_3).trans ((if_neg c_4).trans ((if_pos c_5).trans (rfl))))
      · refine lv_iload_n hx hb dX3_make_27 rfl (lv_at hl 1 rfl) ?_
        refine lv_bipush (v := (22 : Int32)) hx hb dX3_make_28 (by decide) ?_
        refine lv_icmp_eq (tgt := 59) hx hb dX3_make_30 (by decide) (fun c_6 => ?_) (fun c_6 => ?_)
        · refine lv_iconst (v := (1 : Int32)) hx hb dX3_make_59 (by decide) ?_
          refine lv_goto (tgt := 64) hx hb dX3_make_60 (by decide) ?_
          exact K_64 (1 : Int32) (0 : Int32) _ _ ls  hP hD hS (lv_sub hl [0, 1] rfl) ((if_neg c_3).trans ((if_neg c_4).trans ((if_neg c_5).trans ((if_pos c_6).trans (rfl)))))
        · refine lv_iload_n hx hb dX3_make_33 rfl (lv_at hl 1 rfl) ?_
          refine lv_bipush (v := (22 : Int32)) hx hb dX3_make_34 (by decide) ?_
          refine lv_icmp_le (tgt := 63) hx hb dX3_make_36 (by decide) (fun c_7 => ?_) (fun c_7 => ?_)
          · refine lv_iconst (v := (0 : Int32)) hx hb dX3_make_63 (by decide) ?_
            exact K_64 (0 : Int32) (0 : Int32) _ _ ls  hP hD hS (lv_sub hl [0, 1] rfl) ((if_neg c_3).trans ((if_neg c_4).trans ((if_neg c_5).trans ((if_neg c_6).trans ((if_pos c_7).trans (rfl))))))
          · refine lv_aload_n hx hb dX3_make_39 rfl (lv_at hl 0 rfl) ?_
            refine va_get (D := (dC, dI)) (ci := 5) (v := .ref e0) (C := RX3) (T := TX3) (N := 10) hx hb hts hin_X3 hown hK hP 0 rfl rfl 2 (by decide) hf_7 (fun _ h9 => h9) rfl dX3_make_40 ?_
            refine lv_iload_n hx hb dX3_make_43 rfl (lv_at hl 1 rfl) ?_
            refine va_iald hx hb hK hP 1 0 rfl rfl (mb_ist gz c_3) dX3_make_44 ?_
            refine lv_iconst (v := (1 : Int32)) hx hb dX3_make_45 (by decide) ?_
            refine lv_icmp_eq (tgt := 59) hx hb dX3_make_46 (by decide) (fun c_8 => ?_) (fun c_8 => ?_)
            · refine lv_iconst (v := (1 : Int32)) hx hb dX3_make_59 (by decide) ?_
              refine lv_goto (tgt := 64) hx hb dX3_make_60 (by decide) ?_
              exact K_64 (1 : Int32) (0 : Int32) _ _ ls  hP hD hS (lv_sub hl [0, 1] rfl) ((if_neg c_3).trans ((if_neg c_4).trans ((if_neg c_5).trans ((if_neg c_6).trans ((if_neg c_7).trans ((if_pos c_8).trans (rfl)))))))
            · refine lv_aload_n hx hb dX3_make_49 rfl (lv_at hl 0 rfl) ?_
              refine va_get (D := (dC, dI)) (ci := 5) (v := .ref e0) (C := RX3) (T := TX3) (N := 10) hx hb hts hin_X3 hown hK hP 0 rfl rfl 2 (by decide) hf_7 (fun _ h9 => h9) rfl dX3_make_50 ?_
              refine lv_iload_n hx hb dX3_make_53 rfl (lv_at hl 1 rfl) ?_
              refine va_iald hx hb hK hP 1 0 rfl rfl (mb_ist gz c_3) dX3_make_54 ?_
              refine lv_iconst (v := (3 : Int32)) hx hb dX3_make_55 (by decide) ?_
              refine lv_icmp_ne (tgt := 63) hx hb dX3_make_56 (by decide) (fun c_9 => ?_) (fun c_9 => ?_)
              · refine lv_iconst (v := (0 : Int32)) hx hb dX3_make_63 (by decide) ?_
                exact K_64 (0 : Int32) (0 : Int32) _ _ ls  hP hD hS (lv_sub hl [0, 1] rfl) ((if_neg c_3).trans ((if_neg c_4).trans ((if_neg c_5).trans ((if_neg c_6).trans ((if_neg c_7).trans ((if_neg c_8).trans ((if_neg c_9).trans (rfl))))))))
              · refine lv_iconst (v := (1 : Int32)) hx hb dX3_make_59 (by decide) ?_
                refine lv_goto (tgt := 64) hx hb dX3_make_60 (by decide) ?_
                exact K_64 (1 : Int32) (0 : Int32) _ _ ls  hP hD hS (lv_sub hl [0, 1] rfl) ((if_neg c_3).trans ((if_neg c_4).trans ((if_neg c_5).trans ((if_neg c_6).trans ((if_neg c_7).trans ((if_neg c_8).trans ((if_pos c_9).trans (rfl))))))))
  · refine lv_iconst (v := (-1 : Int32)) hx hb dX3_make_13 (by decide) ?_
    exact W.iret (v := (-1 : Int32)) hx hb hr (fun t ht hW => ⟨⟨(-1 : Int32), ((0 : Int32), kp, bt, oc), rfl, Eq.symm ((if_pos c_3).trans (rfl)), by rw [ht]; exact hP, va_K.moved hW.alike hK, hD⟩, hS.F ht⟩) hS.2.2 dX3_make_14
def f_X3_typeOf (th : Int32) (so : Nat → Int32) (fi : Nat → Int32) (el : Nat → Int32) (av : Nat → Int32) (un : Nat → Int32) (ty : Int32) (kp : Nat → Int32) (bt : Nat → Int64) (oc : Int32) (x1 : Int32) : Int32 × ((Int32)) := if (f_X3_isObject so fi el av un ty kp bt oc x1) = 0 then ((-1 : Int32), (0 : Int32))
  else ((kp x1.toNatClampNeg), (0 : Int32))
set_option maxHeartbeats 4000000 in
set_option maxRecDepth 100000 in
theorem c_X3_typeOf (l : Launch) (dC : Nat → ClassId) (dI : Nat → Nat → Nat) (cyI cyZ cyJ : ClassId) (h3 e0 e1 e2 e3 e4 e5 e6 : Nat) (th : Int32) (so : Nat → Int32) (fi : Nat → Int32) (el : Nat → Int32) (av : Nat → Int32) (un : Nat → Int32) (ty : Int32) (kp : Nat → Int32) (bt : Nat → Int64) (oc : Int32) (hs : Nat) (x1 : Int32) (go : 0 ≤ oc.toInt ∧ oc.toInt ≤ 60) : Met l yX3_typeOf wsX3_typeOf ({ frames := 2, cells := 0, slots := 0, locals := 43 }) (va_Pc [.ref h3, .int x1] (mb_M (dC, dI) (mb_tys cyI cyZ cyJ) hs [(h3, .inr (5, [.int th, .int ty, .ref e0, .ref e1, .ref e2, .ref e3, .ref e4, .int oc, .ref e5, .ref e6])), (e0, .inl (cyI, 40, .inl so)), (e1, .inl (cyZ, 40, .inl fi)), (e2, .inl (cyI, 40, .inl el)), (e3, .inl (cyI, 120, .inl av)), (e4, .inl (cyZ, 1600, .inl un)), (e5, .inl (cyI, 60, .inl kp)), (e6, .inl (cyJ, 60, .inr (.inl bt)))])) (va_Qi (S := ((Int32))) (fun r u => (r, u) = f_X3_typeOf th so fi el av un ty kp bt oc x1) (fun u t => mb_at dC dI cyI cyZ cyJ (va_A [(h3, .inr (5, [.int th, .int ty, .ref e0, .ref e1, .ref e2, .ref e3, .ref e4, .int oc, .ref e5, .ref e6])), (e0, .inl (cyI, 40, .inl so)), (e1, .inl (cyZ, 40, .inl fi)), (e2, .inl (cyI, 40, .inl el)), (e3, .inl (cyI, 120, .inl av)), (e4, .inl (cyZ, 1600, .inl un)), (e5, .inl (cyI, 60, .inl kp)), (e6, .inl (cyJ, 60, .inr (.inl bt)))] hs) [(h3, .inr (5, [.int u, .int ty, .ref e0, .ref e1, .ref e2, .ref e3, .ref e4, .int oc, .ref e5, .ref e6])), (e0, .inl (cyI, 40, .inl so)), (e1, .inl (cyZ, 40, .inl fi)), (e2, .inl (cyI, 40, .inl el)), (e3, .inl (cyI, 120, .inl av)), (e4, .inl (cyZ, 1600, .inl un)), (e5, .inl (cyI, 60, .inl kp)), (e6, .inl (cyJ, 60, .inr (.inl bt)))] t) (va_A [(h3, .inr (5, [.int th, .int ty, .ref e0, .ref e1, .ref e2, .ref e3, .ref e4, .int oc, .ref e5, .ref e6])), (e0, .inl (cyI, 40, .inl so)), (e1, .inl (cyZ, 40, .inl fi)), (e2, .inl (cyI, 40, .inl el)), (e3, .inl (cyI, 120, .inl av)), (e4, .inl (cyZ, 1600, .inl un)), (e5, .inl (cyI, 60, .inl kp)), (e6, .inl (cyJ, 60, .inr (.inl bt)))] hs)) 0 0 (va_A [(h3, .inr (5, [.int th, .int ty, .ref e0, .ref e1, .ref e2, .ref e3, .ref e4, .int oc, .ref e5, .ref e6])), (e0, .inl (cyI, 40, .inl so)), (e1, .inl (cyZ, 40, .inl fi)), (e2, .inl (cyI, 40, .inl el)), (e3, .inl (cyI, 120, .inl av)), (e4, .inl (cyZ, 1600, .inl un)), (e5, .inl (cyI, 60, .inl kp)), (e6, .inl (cyJ, 60, .inr (.inl bt)))] hs) := by
  refine Met.ofW (cc := cX3_typeOf) (maxL := 2) (ret := (some .int)) (by decide) rfl ?_
  intro p e s m args below meth c s₁ B hml hv
  obtain ⟨rfl, hsz, hP, hK, hD0⟩ := hv
  have hx := B.exec
  have hb := B.bytes
  have hr := B.returns
  have hts := atoms_spec (ws := wsX3_typeOf) B.pre
  have hown : s.vm.findClass RX3 = some m.cls := findClass_of_methodNamed B.named
  have hlocks := B.notSynchronized
  subst hsz
  have hD := hD0.self (sz := s.heap.size)
  generalize hAe : va_A [(h3, .inr (5, [.int th, .int ty, .ref e0, .ref e1, .ref e2, .ref e3, .ref e4, .int oc, .ref e5, .ref e6])), (e0, .inl (cyI, 40, .inl so)), (e1, .inl (cyZ, 40, .inl fi)), (e2, .inl (cyI, 40, .inl el)), (e3, .inl (cyI, 120, .inl av)), (e4, .inl (cyZ, 1600, .inl un)), (e5, .inl (cyI, 60, .inl kp)), (e6, .inl (cyJ, 60, .inr (.inl bt)))] s.heap.size = A at hD ⊢
  have hA : ∀ q : Nat, s.heap.size ≤ q → A q := fun q h => by rw [← hAe]; exact Or.inr h
  have hS : va_S A s.heap s.heap [] := va_S.rf
  have hP : va_P (dC, dI) vwCl [(h3, .inr (5, [.int th, .int ty, .ref e0, .ref e1, .ref e2, .ref e3, .ref e4, .int oc, .ref e5, .ref e6])), (e0, .inl (cyI, 40, .inl so)), (e1, .inl (cyZ, 40, .inl fi)), (e2, .inl (cyI, 40, .inl el)), (e3, .inl (cyI, 120, .inl av)), (e4, .inl (cyZ, 1600, .inl un)), (e5, .inl (cyI, 60, .inl kp)), (e6, .inl (cyJ, 60, .inr (.inl bt)))] s.heap := hP
  have hP0 : va_P (dC, dI) vwCl [] s.heap := fun k q h => by simp at h
  have hin_X3 : ∀ w ∈ wsX30, w ∈ wsX3_typeOf := by decide +kernel
  have hf_40 := hts (.fieldLink RX3 40 "ConversionTablesModel" "thrown" "I") (by decide +kernel)
  have hf_26 := hts (.fieldLink RX3 26 "ConversionTablesModel" "kept" "[I") (by decide +kernel)
  have hl := lv_entry ([.ref h3, .int x1]) (n := 2) (Nat.le_of_ble_eq_true rfl)
  rw [lg_entry_eq]
  generalize (lg_sl ([.ref h3, .int x1]) ++ List.replicate (2 - (lg_sl ([.ref h3, .int x1])).length) Slot.unset).toArray = ls at hl ⊢
  have hl : lv_has ls 2 [(0, .ref h3), (1, .int x1)] := hl
  refine lv_aload_n hx hb dX3_typeOf_0 rfl (lv_at hl 0 rfl) ?_
  refine lv_iconst (v := (0 : Int32)) hx hb dX3_typeOf_1 (by decide) ?_
  refine va_put (D := (dC, dI)) (ci := 5) (v := .int (0 : Int32)) (ty := .int) (C := RX3) (T := TX3) (N := 10) hx hb hts hin_X3 tyX3 tyX3_ok nmX3 hown hK hP hD hS 0 rfl rfl 0 (by decide) hf_40 (fun _ h9 => h9) rfl (by decide +kernel) rfl rfl (Nat.le_of_ble_eq_true rfl) dX3_typeOf_2 (fun H locs hP hD hS => ?_)
  have hP : va_P (dC, dI) vwCl [(h3, .inr (5, [.int (0 : Int32), .int ty, .ref e0, .ref e1, .ref e2, .ref e3, .ref e4, .int oc, .ref e5, .ref e6])), (e0, .inl (cyI, 40, .inl so)), (e1, .inl (cyZ, 40, .inl fi)), (e2, .inl (cyI, 40, .inl el)), (e3, .inl (cyI, 120, .inl av)), (e4, .inl (cyZ, 1600, .inl un)), (e5, .inl (cyI, 60, .inl kp)), (e6, .inl (cyJ, 60, .inr (.inl bt)))] H := hP
  have hD : va_D A [(h3, .inr (5, [.int (0 : Int32), .int ty, .ref e0, .ref e1, .ref e2, .ref e3, .ref e4, .int oc, .ref e5, .ref e6])), (e0, .inl (cyI, 40, .inl so)), (e1, .inl (cyZ, 40, .inl fi)), (e2, .inl (cyI, 40, .inl el)), (e3, .inl (cyI, 120, .inl av)), (e4, .inl (cyZ, 1600, .inl un)), (e5, .inl (cyI, 60, .inl kp)), (e6, .inl (cyJ, 60, .inr (.inl bt)))] := hD
  refine lv_aload_n hx hb dX3_typeOf_5 rfl (lv_at hl 0 rfl) ?_
  refine lv_iload_n hx hb dX3_typeOf_6 rfl (lv_at hl 1 rfl) ?_
  refine mb_callSi (W.runV (As := [.int x1]) (rest := []) ⟨hx, hb, hml, hown, hts⟩ (c_X3_isObject l dC dI cyI cyZ cyJ h3 e0 e1 e2 e3 e4 e5 e6 so fi el av un ty kp bt oc (0 : Int32) x1) (cwV 1 hts gX3_typeOf_X3_isObject rfl rfl rfl (by decide +kernel) ⟨Nat.le_of_ble_eq_true rfl, Nat.le_of_ble_eq_true rfl⟩) (mb_preV hK hP (ci := 5) (q0 := 0) rfl rfl) rfl rfl hl.1 rfl (lv_room (Nat.le_of_ble_eq_true rfl)) dX3_typeOf_7 ⟨Nat.zero_le _, Nat.zero_le _⟩) ?_
  refine lv_if_eq (tgt := 22) hx hb dX3_typeOf_10 (by decide) (fun c_1 => ?_) (fun c_1 => ?_)
  · refine lv_iconst (v := (-1 : Int32)) hx hb dX3_typeOf_22 (by decide) ?_
    exact W.iret (v := (-1 : Int32)) hx hb hr (fun t ht hW => ⟨⟨(-1 : Int32), (0 : Int32), rfl, Eq.symm ((if_pos c_1).trans (rfl)), by rw [ht]; exact hP, va_K.moved hW.alike hK, hD⟩, hS.F ht⟩) hS.2.2 dX3_typeOf_23
  · refine lv_aload_n hx hb dX3_typeOf_13 rfl (lv_at hl 0 rfl) ?_
    refine va_get (D := (dC, dI)) (ci := 5) (v := .ref e5) (C := RX3) (T := TX3) (N := 10) hx hb hts hin_X3 hown hK hP 0 rfl rfl 8 (by decide) hf_26 (fun _ h9 => h9) rfl dX3_typeOf_14 ?_
    refine lv_iload_n hx hb dX3_typeOf_17 rfl (lv_at hl 1 rfl) ?_
    refine va_iald hx hb hK hP 6 0 rfl rfl (mb_iso go c_1) dX3_typeOf_18 ?_
    refine lv_goto (tgt := 23) hx hb dX3_typeOf_19 (by decide) ?_
    exact W.iret (v := (kp x1.toNatClampNeg)) hx hb hr (fun t ht hW => ⟨⟨(kp x1.toNatClampNeg), (0 : Int32), rfl, Eq.symm ((if_neg c_1).trans (rfl)), by rw [ht]; exact hP, va_K.moved hW.alike hK, hD⟩, hS.F ht⟩) hS.2.2 dX3_typeOf_23
def f_X3_unboxed (th : Int32) (so : Nat → Int32) (fi : Nat → Int32) (el : Nat → Int32) (av : Nat → Int32) (un : Nat → Int32) (ty : Int32) (kp : Nat → Int32) (bt : Nat → Int64) (oc : Int32) (x1 : Int32) (x2 : Int32) : Int64 × ((Int32)) := if (f_X3_isObject so fi el av un ty kp bt oc x1) = 0 then ((-1 : Int64), (0 : Int32))
  else if (f_X3_isType so fi el av un ty kp bt oc x2) = 0 then ((-1 : Int64), (0 : Int32))
  else if (f_X3_isBox x2) = 0 then ((-2 : Int64), (0 : Int32))
  else if (kp x1.toNatClampNeg) = (22 : Int32) then (if (2 : Int32) ≤ 0 then ((bt x1.toNatClampNeg), (2 : Int32))
    else ((0 : Int64), (2 : Int32)))
  else if (kp x1.toNatClampNeg) = x2 then (if (0 : Int32) ≤ 0 then ((bt x1.toNatClampNeg), (0 : Int32))
    else ((0 : Int64), (0 : Int32)))
  else if (1 : Int32) ≤ 0 then ((bt x1.toNatClampNeg), (1 : Int32))
  else ((0 : Int64), (1 : Int32))
set_option maxHeartbeats 4000000 in
set_option maxRecDepth 100000 in
theorem c_X3_unboxed (l : Launch) (dC : Nat → ClassId) (dI : Nat → Nat → Nat) (cyI cyZ cyJ : ClassId) (h3 e0 e1 e2 e3 e4 e5 e6 : Nat) (th : Int32) (so : Nat → Int32) (fi : Nat → Int32) (el : Nat → Int32) (av : Nat → Int32) (un : Nat → Int32) (ty : Int32) (kp : Nat → Int32) (bt : Nat → Int64) (oc : Int32) (hs : Nat) (x1 : Int32) (x2 : Int32) (gz : 0 ≤ ty.toInt ∧ ty.toInt ≤ 40) (go : 0 ≤ oc.toInt ∧ oc.toInt ≤ 60) : Met l yX3_unboxed wsX3_unboxed ({ frames := 2, cells := 0, slots := 0, locals := 43 }) (va_Pc [.ref h3, .int x1, .int x2] (mb_M (dC, dI) (mb_tys cyI cyZ cyJ) hs [(h3, .inr (5, [.int th, .int ty, .ref e0, .ref e1, .ref e2, .ref e3, .ref e4, .int oc, .ref e5, .ref e6])), (e0, .inl (cyI, 40, .inl so)), (e1, .inl (cyZ, 40, .inl fi)), (e2, .inl (cyI, 40, .inl el)), (e3, .inl (cyI, 120, .inl av)), (e4, .inl (cyZ, 1600, .inl un)), (e5, .inl (cyI, 60, .inl kp)), (e6, .inl (cyJ, 60, .inr (.inl bt)))])) (va_Ql (S := ((Int32))) (fun r u => (r, u) = f_X3_unboxed th so fi el av un ty kp bt oc x1 x2) (fun u t => mb_at dC dI cyI cyZ cyJ (va_A [(h3, .inr (5, [.int th, .int ty, .ref e0, .ref e1, .ref e2, .ref e3, .ref e4, .int oc, .ref e5, .ref e6])), (e0, .inl (cyI, 40, .inl so)), (e1, .inl (cyZ, 40, .inl fi)), (e2, .inl (cyI, 40, .inl el)), (e3, .inl (cyI, 120, .inl av)), (e4, .inl (cyZ, 1600, .inl un)), (e5, .inl (cyI, 60, .inl kp)), (e6, .inl (cyJ, 60, .inr (.inl bt)))] hs) [(h3, .inr (5, [.int u, .int ty, .ref e0, .ref e1, .ref e2, .ref e3, .ref e4, .int oc, .ref e5, .ref e6])), (e0, .inl (cyI, 40, .inl so)), (e1, .inl (cyZ, 40, .inl fi)), (e2, .inl (cyI, 40, .inl el)), (e3, .inl (cyI, 120, .inl av)), (e4, .inl (cyZ, 1600, .inl un)), (e5, .inl (cyI, 60, .inl kp)), (e6, .inl (cyJ, 60, .inr (.inl bt)))] t) (va_A [(h3, .inr (5, [.int th, .int ty, .ref e0, .ref e1, .ref e2, .ref e3, .ref e4, .int oc, .ref e5, .ref e6])), (e0, .inl (cyI, 40, .inl so)), (e1, .inl (cyZ, 40, .inl fi)), (e2, .inl (cyI, 40, .inl el)), (e3, .inl (cyI, 120, .inl av)), (e4, .inl (cyZ, 1600, .inl un)), (e5, .inl (cyI, 60, .inl kp)), (e6, .inl (cyJ, 60, .inr (.inl bt)))] hs)) 0 0 (va_A [(h3, .inr (5, [.int th, .int ty, .ref e0, .ref e1, .ref e2, .ref e3, .ref e4, .int oc, .ref e5, .ref e6])), (e0, .inl (cyI, 40, .inl so)), (e1, .inl (cyZ, 40, .inl fi)), (e2, .inl (cyI, 40, .inl el)), (e3, .inl (cyI, 120, .inl av)), (e4, .inl (cyZ, 1600, .inl un)), (e5, .inl (cyI, 60, .inl kp)), (e6, .inl (cyJ, 60, .inr (.inl bt)))] hs) := by
  refine Met.ofW (cc := cX3_unboxed) (maxL := 3) (ret := (some .long)) (by decide) rfl ?_
  intro p e s m args below meth c s₁ B hml hv
  obtain ⟨rfl, hsz, hP, hK, hD0⟩ := hv
  have hx := B.exec
  have hb := B.bytes
  have hr := B.returns
  have hts := atoms_spec (ws := wsX3_unboxed) B.pre
  have hown : s.vm.findClass RX3 = some m.cls := findClass_of_methodNamed B.named
  have hlocks := B.notSynchronized
  subst hsz
  have hD := hD0.self (sz := s.heap.size)
  generalize hAe : va_A [(h3, .inr (5, [.int th, .int ty, .ref e0, .ref e1, .ref e2, .ref e3, .ref e4, .int oc, .ref e5, .ref e6])), (e0, .inl (cyI, 40, .inl so)), (e1, .inl (cyZ, 40, .inl fi)), (e2, .inl (cyI, 40, .inl el)), (e3, .inl (cyI, 120, .inl av)), (e4, .inl (cyZ, 1600, .inl un)), (e5, .inl (cyI, 60, .inl kp)), (e6, .inl (cyJ, 60, .inr (.inl bt)))] s.heap.size = A at hD ⊢
  have hA : ∀ q : Nat, s.heap.size ≤ q → A q := fun q h => by rw [← hAe]; exact Or.inr h
  have hS : va_S A s.heap s.heap [] := va_S.rf
  have hP : va_P (dC, dI) vwCl [(h3, .inr (5, [.int th, .int ty, .ref e0, .ref e1, .ref e2, .ref e3, .ref e4, .int oc, .ref e5, .ref e6])), (e0, .inl (cyI, 40, .inl so)), (e1, .inl (cyZ, 40, .inl fi)), (e2, .inl (cyI, 40, .inl el)), (e3, .inl (cyI, 120, .inl av)), (e4, .inl (cyZ, 1600, .inl un)), (e5, .inl (cyI, 60, .inl kp)), (e6, .inl (cyJ, 60, .inr (.inl bt)))] s.heap := hP
  have hP0 : va_P (dC, dI) vwCl [] s.heap := fun k q h => by simp at h
  have hin_X3 : ∀ w ∈ wsX30, w ∈ wsX3_unboxed := by decide +kernel
  have hf_40 := hts (.fieldLink RX3 40 "ConversionTablesModel" "thrown" "I") (by decide +kernel)
  have hf_26 := hts (.fieldLink RX3 26 "ConversionTablesModel" "kept" "[I") (by decide +kernel)
  have hf_29 := hts (.fieldLink RX3 29 "ConversionTablesModel" "bits" "[J") (by decide +kernel)
  have hl := lv_entry ([.ref h3, .int x1, .int x2]) (n := 3) (Nat.le_of_ble_eq_true rfl)
  rw [lg_entry_eq]
  generalize (lg_sl ([.ref h3, .int x1, .int x2]) ++ List.replicate (3 - (lg_sl ([.ref h3, .int x1, .int x2])).length) Slot.unset).toArray = ls at hl ⊢
  have hl : lv_has ls 3 [(0, .ref h3), (1, .int x1), (2, .int x2)] := hl
  refine lv_aload_n hx hb dX3_unboxed_0 rfl (lv_at hl 0 rfl) ?_
  refine lv_iconst (v := (0 : Int32)) hx hb dX3_unboxed_1 (by decide) ?_
  refine va_put (D := (dC, dI)) (ci := 5) (v := .int (0 : Int32)) (ty := .int) (C := RX3) (T := TX3) (N := 10) hx hb hts hin_X3 tyX3 tyX3_ok nmX3 hown hK hP hD hS 0 rfl rfl 0 (by decide) hf_40 (fun _ h9 => h9) rfl (by decide +kernel) rfl rfl (Nat.le_of_ble_eq_true rfl) dX3_unboxed_2 (fun H locs hP hD hS => ?_)
  have hP : va_P (dC, dI) vwCl [(h3, .inr (5, [.int (0 : Int32), .int ty, .ref e0, .ref e1, .ref e2, .ref e3, .ref e4, .int oc, .ref e5, .ref e6])), (e0, .inl (cyI, 40, .inl so)), (e1, .inl (cyZ, 40, .inl fi)), (e2, .inl (cyI, 40, .inl el)), (e3, .inl (cyI, 120, .inl av)), (e4, .inl (cyZ, 1600, .inl un)), (e5, .inl (cyI, 60, .inl kp)), (e6, .inl (cyJ, 60, .inr (.inl bt)))] H := hP
  have hD : va_D A [(h3, .inr (5, [.int (0 : Int32), .int ty, .ref e0, .ref e1, .ref e2, .ref e3, .ref e4, .int oc, .ref e5, .ref e6])), (e0, .inl (cyI, 40, .inl so)), (e1, .inl (cyZ, 40, .inl fi)), (e2, .inl (cyI, 40, .inl el)), (e3, .inl (cyI, 120, .inl av)), (e4, .inl (cyZ, 1600, .inl un)), (e5, .inl (cyI, 60, .inl kp)), (e6, .inl (cyJ, 60, .inr (.inl bt)))] := hD
  refine lv_aload_n hx hb dX3_unboxed_5 rfl (lv_at hl 0 rfl) ?_
  refine lv_iload_n hx hb dX3_unboxed_6 rfl (lv_at hl 1 rfl) ?_
  refine mb_callSi (W.runV (As := [.int x1]) (rest := []) ⟨hx, hb, hml, hown, hts⟩ (c_X3_isObject l dC dI cyI cyZ cyJ h3 e0 e1 e2 e3 e4 e5 e6 so fi el av un ty kp bt oc (0 : Int32) x1) (cwV 1 hts gX3_unboxed_X3_isObject rfl rfl rfl (by decide +kernel) ⟨Nat.le_of_ble_eq_true rfl, Nat.le_of_ble_eq_true rfl⟩) (mb_preV hK hP (ci := 5) (q0 := 0) rfl rfl) rfl rfl hl.1 rfl (lv_room (Nat.le_of_ble_eq_true rfl)) dX3_unboxed_7 ⟨Nat.zero_le _, Nat.zero_le _⟩) ?_
  refine lv_if_eq (tgt := 21) hx hb dX3_unboxed_10 (by decide) (fun c_1 => ?_) (fun c_1 => ?_)
  · refine lv_ldc2 (v := (-1 : Int64)) hx hb hown (hts (.constantLong RX3 128 (-1)) (by decide +kernel)) dX3_unboxed_21 ?_
    exact W.lret (v := (-1 : Int64)) hx hb hr (fun t ht hW => ⟨⟨(-1 : Int64), (0 : Int32), rfl, Eq.symm ((if_pos c_1).trans (rfl)), by rw [ht]; exact hP, va_K.moved hW.alike hK, hD⟩, hS.F ht⟩) hS.2.2 dX3_unboxed_24
  · refine lv_aload_n hx hb dX3_unboxed_13 rfl (lv_at hl 0 rfl) ?_
    refine lv_iload_n hx hb dX3_unboxed_14 rfl (lv_at hl 2 rfl) ?_
    refine mb_callSi (W.runV (As := [.int x2]) (rest := []) ⟨hx, hb, hml, hown, hts⟩ (c_X3_isType l dC dI cyI cyZ cyJ h3 e0 e1 e2 e3 e4 e5 e6 so fi el av un ty kp bt oc (0 : Int32) x2) (cwV 1 hts gX3_unboxed_X3_isType rfl rfl rfl (by decide +kernel) ⟨Nat.le_of_ble_eq_true rfl, Nat.le_of_ble_eq_true rfl⟩) (mb_preV hK hP (ci := 5) (q0 := 0) rfl rfl) rfl rfl hl.1 rfl (lv_room (Nat.le_of_ble_eq_true rfl)) dX3_unboxed_15 ⟨Nat.zero_le _, Nat.zero_le _⟩) ?_
    refine lv_if_ne (tgt := 25) hx hb dX3_unboxed_18 (by decide) (fun c_2 => ?_) (fun c_2 => ?_)
    · refine lv_iload_n hx hb dX3_unboxed_25 rfl (lv_at hl 2 rfl) ?_
      refine mb_callSi (W.runS (As := [.int x2]) (rest := []) ⟨hx, hb, hml, hown, hts⟩ (c_X3_isBox l x2) (va_cwS 1 hts gX3_unboxed_X3_isBox rfl rfl rfl (by decide +kernel) ⟨Nat.le_of_ble_eq_true rfl, Nat.le_of_ble_eq_true rfl⟩) mb_preT rfl rfl hl.1 rfl (lv_room (Nat.le_of_ble_eq_true rfl)) dX3_unboxed_26 ⟨Nat.zero_le _, Nat.zero_le _⟩) ?_
      refine lv_if_ne (tgt := 36) hx hb dX3_unboxed_29 (by decide) (fun c_3 => ?_) (fun c_3 => ?_)
      · refine lv_aload_n hx hb dX3_unboxed_36 rfl (lv_at hl 0 rfl) ?_
        refine lv_aload_n hx hb dX3_unboxed_37 rfl (lv_at hl 0 rfl) ?_
        refine va_get (D := (dC, dI)) (ci := 5) (v := .ref e5) (C := RX3) (T := TX3) (N := 10) hx hb hts hin_X3 hown hK hP 0 rfl rfl 8 (by decide) hf_26 (fun _ h9 => h9) rfl dX3_unboxed_38 ?_
        refine lv_iload_n hx hb dX3_unboxed_41 rfl (lv_at hl 1 rfl) ?_
        refine va_iald hx hb hK hP 6 0 rfl rfl (mb_iso go c_1) dX3_unboxed_42 ?_
        refine lv_bipush (v := (22 : Int32)) hx hb dX3_unboxed_43 (by decide) ?_
        refine lv_icmp_ne (tgt := 52) hx hb dX3_unboxed_45 (by decide) (fun c_4 => ?_) (fun c_4 => ?_)
        · refine lv_aload_n hx hb dX3_unboxed_52 rfl (lv_at hl 0 rfl) ?_
          refine va_get (D := (dC, dI)) (ci := 5) (v := .ref e5) (C := RX3) (T := TX3) (N := 10) hx hb hts hin_X3 hown hK hP 0 rfl rfl 8 (by decide) hf_26 (fun _ h9 => h9) rfl dX3_unboxed_53 ?_
          refine lv_iload_n hx hb dX3_unboxed_56 rfl (lv_at hl 1 rfl) ?_
          refine va_iald hx hb hK hP 6 0 rfl rfl (mb_iso go c_1) dX3_unboxed_57 ?_
          refine lv_iload_n hx hb dX3_unboxed_58 rfl (lv_at hl 2 rfl) ?_
          refine lv_icmp_eq (tgt := 66) hx hb dX3_unboxed_59 (by decide) (fun c_5 => ?_) (fun c_5 => ?_)
          · refine lv_iconst (v := (0 : Int32)) hx hb dX3_unboxed_66 (by decide) ?_
            refine va_put (D := (dC, dI)) (ci := 5) (v := .int (0 : Int32)) (ty := .int) (C := RX3) (T := TX3) (N := 10) hx hb hts hin_X3 tyX3 tyX3_ok nmX3 hown hK hP hD hS 0 rfl rfl 0 (by decide) hf_40 (fun _ h9 => h9) rfl (by decide +kernel) rfl rfl (Nat.le_of_ble_eq_true rfl) dX3_unboxed_67 (fun H locs hP hD hS => ?_)
            have hP : va_P (dC, dI) vwCl [(h3, .inr (5, [.int (0 : Int32), .int ty, .ref e0, .ref e1, .ref e2, .ref e3, .ref e4, .int oc, .ref e5, .ref e6])), (e0, .inl (cyI, 40, .inl so)), (e1, .inl (cyZ, 40, .inl fi)), (e2, .inl (cyI, 40, .inl el)), (e3, .inl (cyI, 120, .inl av)), (e4, .inl (cyZ, 1600, .inl un)), (e5, .inl (cyI, 60, .inl kp)), (e6, .inl (cyJ, 60, .inr (.inl bt)))] H := hP
            have hD : va_D A [(h3, .inr (5, [.int (0 : Int32), .int ty, .ref e0, .ref e1, .ref e2, .ref e3, .ref e4, .int oc, .ref e5, .ref e6])), (e0, .inl (cyI, 40, .inl so)), (e1, .inl (cyZ, 40, .inl fi)), (e2, .inl (cyI, 40, .inl el)), (e3, .inl (cyI, 120, .inl av)), (e4, .inl (cyZ, 1600, .inl un)), (e5, .inl (cyI, 60, .inl kp)), (e6, .inl (cyJ, 60, .inr (.inl bt)))] := hD
            refine lv_aload_n hx hb dX3_unboxed_70 rfl (lv_at hl 0 rfl) ?_
            refine va_get (D := (dC, dI)) (ci := 5) (v := .int (0 : Int32)) (C := RX3) (T := TX3) (N := 10) hx hb hts hin_X3 hown hK hP 0 rfl rfl 0 (by decide) hf_40 (fun _ h9 => h9) rfl dX3_unboxed_71 ?_
            refine lv_if_le (tgt := 81) hx hb dX3_unboxed_74 (by decide) (fun c_6 => ?_) (fun c_6 => ?_)
            · refine lv_aload_n hx hb dX3_unboxed_81 rfl (lv_at hl 0 rfl) ?_
              refine va_get (D := (dC, dI)) (ci := 5) (v := .ref e6) (C := RX3) (T := TX3) (N := 10) hx hb hts hin_X3 hown hK hP 0 rfl rfl 9 (by decide) hf_29 (fun _ h9 => h9) rfl dX3_unboxed_82 ?_
              refine lv_iload_n hx hb dX3_unboxed_85 rfl (lv_at hl 1 rfl) ?_
              refine va_lald hx hb hK hP 7 2 rfl rfl (mb_iso go c_1) dX3_unboxed_86 ?_
              exact W.lret (v := (bt x1.toNatClampNeg)) hx hb hr (fun t ht hW => ⟨⟨(bt x1.toNatClampNeg), (0 : Int32), rfl, Eq.symm ((if_neg c_1).trans ((if_neg c_2).trans ((if_neg c_3).trans ((if_neg c_4).trans ((if_pos c_5).trans ((if_pos c_6).trans (rfl))))))), by rw [ht]; exact hP, va_K.moved hW.alike hK, hD⟩, hS.F ht⟩) hS.2.2 dX3_unboxed_87
            · refine lv_lconst (v := (0 : Int64)) hx hb dX3_unboxed_77 (by decide) ?_
              refine lv_goto (tgt := 87) hx hb dX3_unboxed_78 (by decide) ?_
              exact W.lret (v := (0 : Int64)) hx hb hr (fun t ht hW => ⟨⟨(0 : Int64), (0 : Int32), rfl, Eq.symm ((if_neg c_1).trans ((if_neg c_2).trans ((if_neg c_3).trans ((if_neg c_4).trans ((if_pos c_5).trans ((if_neg c_6).trans (rfl))))))), by rw [ht]; exact hP, va_K.moved hW.alike hK, hD⟩, hS.F ht⟩) hS.2.2 dX3_unboxed_87
          · refine lv_iconst (v := (1 : Int32)) hx hb dX3_unboxed_62 (by decide) ?_
            refine lv_goto (tgt := 67) hx hb dX3_unboxed_63 (by decide) ?_
            refine va_put (D := (dC, dI)) (ci := 5) (v := .int (1 : Int32)) (ty := .int) (C := RX3) (T := TX3) (N := 10) hx hb hts hin_X3 tyX3 tyX3_ok nmX3 hown hK hP hD hS 0 rfl rfl 0 (by decide) hf_40 (fun _ h9 => h9) rfl (by decide +kernel) rfl rfl (Nat.le_of_ble_eq_true rfl) dX3_unboxed_67 (fun H locs hP hD hS => ?_)
            have hP : va_P (dC, dI) vwCl [(h3, .inr (5, [.int (1 : Int32), .int ty, .ref e0, .ref e1, .ref e2, .ref e3, .ref e4, .int oc, .ref e5, .ref e6])), (e0, .inl (cyI, 40, .inl so)), (e1, .inl (cyZ, 40, .inl fi)), (e2, .inl (cyI, 40, .inl el)), (e3, .inl (cyI, 120, .inl av)), (e4, .inl (cyZ, 1600, .inl un)), (e5, .inl (cyI, 60, .inl kp)), (e6, .inl (cyJ, 60, .inr (.inl bt)))] H := hP
            have hD : va_D A [(h3, .inr (5, [.int (1 : Int32), .int ty, .ref e0, .ref e1, .ref e2, .ref e3, .ref e4, .int oc, .ref e5, .ref e6])), (e0, .inl (cyI, 40, .inl so)), (e1, .inl (cyZ, 40, .inl fi)), (e2, .inl (cyI, 40, .inl el)), (e3, .inl (cyI, 120, .inl av)), (e4, .inl (cyZ, 1600, .inl un)), (e5, .inl (cyI, 60, .inl kp)), (e6, .inl (cyJ, 60, .inr (.inl bt)))] := hD
            refine lv_aload_n hx hb dX3_unboxed_70 rfl (lv_at hl 0 rfl) ?_
            refine va_get (D := (dC, dI)) (ci := 5) (v := .int (1 : Int32)) (C := RX3) (T := TX3) (N := 10) hx hb hts hin_X3 hown hK hP 0 rfl rfl 0 (by decide) hf_40 (fun _ h9 => h9) rfl dX3_unboxed_71 ?_
            refine lv_if_le (tgt := 81) hx hb dX3_unboxed_74 (by decide) (fun c_7 => ?_) (fun c_7 => ?_)
            · refine lv_aload_n hx hb dX3_unboxed_81 rfl (lv_at hl 0 rfl) ?_
              refine va_get (D := (dC, dI)) (ci := 5) (v := .ref e6) (C := RX3) (T := TX3) (N := 10) hx hb hts hin_X3 hown hK hP 0 rfl rfl 9 (by decide) hf_29 (fun _ h9 => h9) rfl dX3_unboxed_82 ?_
              refine lv_iload_n hx hb dX3_unboxed_85 rfl (lv_at hl 1 rfl) ?_
              refine va_lald hx hb hK hP 7 2 rfl rfl (mb_iso go c_1) dX3_unboxed_86 ?_
              exact W.lret (v := (bt x1.toNatClampNeg)) hx hb hr (fun t ht hW => ⟨⟨(bt x1.toNatClampNeg), (1 : Int32), rfl, Eq.symm ((if_neg c_1).trans ((if_neg c_2).trans ((if_neg c_3).trans ((if_neg c_4).trans ((if_neg c_5).trans ((if_pos c_7).trans (rfl))))))), by rw [ht]; exact hP, va_K.moved hW.alike hK, hD⟩, hS.F ht⟩) hS.2.2 dX3_unboxed_87
            · refine lv_lconst (v := (0 : Int64)) hx hb dX3_unboxed_77 (by decide) ?_
              refine lv_goto (tgt := 87) hx hb dX3_unboxed_78 (by decide) ?_
              exact W.lret (v := (0 : Int64)) hx hb hr (fun t ht hW => ⟨⟨(0 : Int64), (1 : Int32), rfl, Eq.symm ((if_neg c_1).trans ((if_neg c_2).trans ((if_neg c_3).trans ((if_neg c_4).trans ((if_neg c_5).trans ((if_neg c_7).trans (rfl))))))), by rw [ht]; exact hP, va_K.moved hW.alike hK, hD⟩, hS.F ht⟩) hS.2.2 dX3_unboxed_87
        · refine lv_iconst (v := (2 : Int32)) hx hb dX3_unboxed_48 (by decide) ?_
          refine lv_goto (tgt := 67) hx hb dX3_unboxed_49 (by decide) ?_
          refine va_put (D := (dC, dI)) (ci := 5) (v := .int (2 : Int32)) (ty := .int) (C := RX3) (T := TX3) (N := 10) hx hb hts hin_X3 tyX3 tyX3_ok nmX3 hown hK hP hD hS 0 rfl rfl 0 (by decide) hf_40 (fun _ h9 => h9) rfl (by decide +kernel) rfl rfl (Nat.le_of_ble_eq_true rfl) dX3_unboxed_67 (fun H locs hP hD hS => ?_)
          have hP : va_P (dC, dI) vwCl [(h3, .inr (5, [.int (2 : Int32), .int ty, .ref e0, .ref e1, .ref e2, .ref e3, .ref e4, .int oc, .ref e5, .ref e6])), (e0, .inl (cyI, 40, .inl so)), (e1, .inl (cyZ, 40, .inl fi)), (e2, .inl (cyI, 40, .inl el)), (e3, .inl (cyI, 120, .inl av)), (e4, .inl (cyZ, 1600, .inl un)), (e5, .inl (cyI, 60, .inl kp)), (e6, .inl (cyJ, 60, .inr (.inl bt)))] H := hP
          have hD : va_D A [(h3, .inr (5, [.int (2 : Int32), .int ty, .ref e0, .ref e1, .ref e2, .ref e3, .ref e4, .int oc, .ref e5, .ref e6])), (e0, .inl (cyI, 40, .inl so)), (e1, .inl (cyZ, 40, .inl fi)), (e2, .inl (cyI, 40, .inl el)), (e3, .inl (cyI, 120, .inl av)), (e4, .inl (cyZ, 1600, .inl un)), (e5, .inl (cyI, 60, .inl kp)), (e6, .inl (cyJ, 60, .inr (.inl bt)))] := hD
          refine lv_aload_n hx hb dX3_unboxed_70 rfl (lv_at hl 0 rfl) ?_
          refine va_get (D := (dC, dI)) (ci := 5) (v := .int (2 : Int32)) (C := RX3) (T := TX3) (N := 10) hx hb hts hin_X3 hown hK hP 0 rfl rfl 0 (by decide) hf_40 (fun _ h9 => h9) rfl dX3_unboxed_71 ?_
          refine lv_if_le (tgt := 81) hx hb dX3_unboxed_74 (by decide) (fun c_8 => ?_) (fun c_8 => ?_)
          · refine lv_aload_n hx hb dX3_unboxed_81 rfl (lv_at hl 0 rfl) ?_
            refine va_get (D := (dC, dI)) (ci := 5) (v := .ref e6) (C := RX3) (T := TX3) (N := 10) hx hb hts hin_X3 hown hK hP 0 rfl rfl 9 (by decide) hf_29 (fun _ h9 => h9) rfl dX3_unboxed_82 ?_
            refine lv_iload_n hx hb dX3_unboxed_85 rfl (lv_at hl 1 rfl) ?_
            refine va_lald hx hb hK hP 7 2 rfl rfl (mb_iso go c_1) dX3_unboxed_86 ?_
            exact W.lret (v := (bt x1.toNatClampNeg)) hx hb hr (fun t ht hW => ⟨⟨(bt x1.toNatClampNeg), (2 : Int32), rfl, Eq.symm ((if_neg c_1).trans ((if_neg c_2).trans ((if_neg c_3).trans ((if_pos c_4).trans ((if_pos c_8).trans (rfl)))))), by rw [ht]; exact hP, va_K.moved hW.alike hK, hD⟩, hS.F ht⟩) hS.2.2 dX3_unboxed_87
          · refine lv_lconst (v := (0 : Int64)) hx hb dX3_unboxed_77 (by decide) ?_
            refine lv_goto (tgt := 87) hx hb dX3_unboxed_78 (by decide) ?_
            exact W.lret (v := (0 : Int64)) hx hb hr (fun t ht hW => ⟨⟨(0 : Int64), (2 : Int32), rfl, Eq.symm ((if_neg c_1).trans ((if_neg c_2).trans ((if_neg c_3).trans ((if_pos c_4).trans ((if_neg c_8).trans (rfl)))))), by rw [ht]; exact hP, va_K.moved hW.alike hK, hD⟩, hS.F ht⟩) hS.2.2 dX3_unboxed_87
      · refine lv_ldc2 (v := (-2 : Int64)) hx hb hown (hts (.constantLong RX3 133 (-2)) (by decide +kernel)) dX3_unboxed_32 ?_
        exact W.lret (v := (-2 : Int64)) hx hb hr (fun t ht hW => ⟨⟨(-2 : Int64), (0 : Int32), rfl, Eq.symm ((if_neg c_1).trans ((if_neg c_2).trans ((if_pos c_3).trans (rfl)))), by rw [ht]; exact hP, va_K.moved hW.alike hK, hD⟩, hS.F ht⟩) hS.2.2 dX3_unboxed_35
    · refine lv_ldc2 (v := (-1 : Int64)) hx hb hown (hts (.constantLong RX3 128 (-1)) (by decide +kernel)) dX3_unboxed_21 ?_
      exact W.lret (v := (-1 : Int64)) hx hb hr (fun t ht hW => ⟨⟨(-1 : Int64), (0 : Int32), rfl, Eq.symm ((if_neg c_1).trans ((if_pos c_2).trans (rfl))), by rw [ht]; exact hP, va_K.moved hW.alike hK, hD⟩, hS.F ht⟩) hS.2.2 dX3_unboxed_24
def f_X3_cast (th : Int32) (so : Nat → Int32) (fi : Nat → Int32) (el : Nat → Int32) (av : Nat → Int32) (un : Nat → Int32) (ty : Int32) (kp : Nat → Int32) (bt : Nat → Int64) (oc : Int32) (x1 : Int32) (x2 : Int32) (x3 : Int32) : Int32 × ((Int32)) := if (f_X3_isObject so fi el av un ty kp bt oc x1) = 0 then ((-1 : Int32), (0 : Int32))
  else if (f_X3_isType so fi el av un ty kp bt oc x2) = 0 then ((-1 : Int32), (0 : Int32))
  else if (f_X3_isType so fi el av un ty kp bt oc x3) = 0 then ((-1 : Int32), (0 : Int32))
  else if (f_X3_isReference so fi el av un ty kp bt oc x2) = 0 then ((-2 : Int32), (0 : Int32))
  else if (un (((40 : Int32) * (kp x1.toNatClampNeg)) + x2).toNatClampNeg) = 0 then ((-2 : Int32), (0 : Int32))
  else if (f_X3_kindOf so fi el av un ty kp bt oc x2 x3 (3 : Int32)) = 0 then ((-2 : Int32), (0 : Int32))
  else if (kp x1.toNatClampNeg) = (22 : Int32) then (if (8 : Int32) ≤ x3 then (if (un (((40 : Int32) * (kp x1.toNatClampNeg)) + x3).toNatClampNeg) = 0 then ((0 : Int32), (0 : Int32))
      else ((1 : Int32), (0 : Int32)))
    else if (1 : Int32) = 0 then (if (f_X3_kindOf so fi el av un ty kp bt oc x2 x3 (3 : Int32)) = (11 : Int32) then (if (kp x1.toNatClampNeg) = (x3 + (8 : Int32)) then ((1 : Int32), (0 : Int32))
        else ((0 : Int32), (0 : Int32)))
      else ((1 : Int32), (0 : Int32)))
    else ((2 : Int32), (0 : Int32)))
  else if (8 : Int32) ≤ x3 then (if (un (((40 : Int32) * (kp x1.toNatClampNeg)) + x3).toNatClampNeg) = 0 then ((0 : Int32), (0 : Int32))
    else ((1 : Int32), (0 : Int32)))
  else if (0 : Int32) = 0 then (if (f_X3_kindOf so fi el av un ty kp bt oc x2 x3 (3 : Int32)) = (11 : Int32) then (if (kp x1.toNatClampNeg) = (x3 + (8 : Int32)) then ((1 : Int32), (0 : Int32))
      else ((0 : Int32), (0 : Int32)))
    else ((1 : Int32), (0 : Int32)))
  else ((2 : Int32), (0 : Int32))
set_option maxHeartbeats 4000000 in
set_option maxRecDepth 100000 in
theorem c_X3_cast (l : Launch) (dC : Nat → ClassId) (dI : Nat → Nat → Nat) (cyI cyZ cyJ : ClassId) (h3 e0 e1 e2 e3 e4 e5 e6 : Nat) (th : Int32) (so : Nat → Int32) (fi : Nat → Int32) (el : Nat → Int32) (av : Nat → Int32) (un : Nat → Int32) (ty : Int32) (kp : Nat → Int32) (bt : Nat → Int64) (oc : Int32) (hs : Nat) (x1 : Int32) (x2 : Int32) (x3 : Int32) (gz : 0 ≤ ty.toInt ∧ ty.toInt ≤ 40) (go : 0 ≤ oc.toInt ∧ oc.toInt ≤ 60) (gt : ∀ x : Int32, ¬ x < 0 → ¬ oc ≤ x → vp_in (kp x.toNatClampNeg) 40) (ge : mb_EL so el) : Met l yX3_cast wsX3_cast ({ frames := 5, cells := 0, slots := 0, locals := 115 }) (va_Pc [.ref h3, .int x1, .int x2, .int x3] (mb_M (dC, dI) (mb_tys cyI cyZ cyJ) hs [(h3, .inr (5, [.int th, .int ty, .ref e0, .ref e1, .ref e2, .ref e3, .ref e4, .int oc, .ref e5, .ref e6])), (e0, .inl (cyI, 40, .inl so)), (e1, .inl (cyZ, 40, .inl fi)), (e2, .inl (cyI, 40, .inl el)), (e3, .inl (cyI, 120, .inl av)), (e4, .inl (cyZ, 1600, .inl un)), (e5, .inl (cyI, 60, .inl kp)), (e6, .inl (cyJ, 60, .inr (.inl bt)))])) (va_Qi (S := ((Int32))) (fun r u => (r, u) = f_X3_cast th so fi el av un ty kp bt oc x1 x2 x3) (fun u t => mb_at dC dI cyI cyZ cyJ (va_A [(h3, .inr (5, [.int th, .int ty, .ref e0, .ref e1, .ref e2, .ref e3, .ref e4, .int oc, .ref e5, .ref e6])), (e0, .inl (cyI, 40, .inl so)), (e1, .inl (cyZ, 40, .inl fi)), (e2, .inl (cyI, 40, .inl el)), (e3, .inl (cyI, 120, .inl av)), (e4, .inl (cyZ, 1600, .inl un)), (e5, .inl (cyI, 60, .inl kp)), (e6, .inl (cyJ, 60, .inr (.inl bt)))] hs) [(h3, .inr (5, [.int u, .int ty, .ref e0, .ref e1, .ref e2, .ref e3, .ref e4, .int oc, .ref e5, .ref e6])), (e0, .inl (cyI, 40, .inl so)), (e1, .inl (cyZ, 40, .inl fi)), (e2, .inl (cyI, 40, .inl el)), (e3, .inl (cyI, 120, .inl av)), (e4, .inl (cyZ, 1600, .inl un)), (e5, .inl (cyI, 60, .inl kp)), (e6, .inl (cyJ, 60, .inr (.inl bt)))] t) (va_A [(h3, .inr (5, [.int th, .int ty, .ref e0, .ref e1, .ref e2, .ref e3, .ref e4, .int oc, .ref e5, .ref e6])), (e0, .inl (cyI, 40, .inl so)), (e1, .inl (cyZ, 40, .inl fi)), (e2, .inl (cyI, 40, .inl el)), (e3, .inl (cyI, 120, .inl av)), (e4, .inl (cyZ, 1600, .inl un)), (e5, .inl (cyI, 60, .inl kp)), (e6, .inl (cyJ, 60, .inr (.inl bt)))] hs)) 0 0 (va_A [(h3, .inr (5, [.int th, .int ty, .ref e0, .ref e1, .ref e2, .ref e3, .ref e4, .int oc, .ref e5, .ref e6])), (e0, .inl (cyI, 40, .inl so)), (e1, .inl (cyZ, 40, .inl fi)), (e2, .inl (cyI, 40, .inl el)), (e3, .inl (cyI, 120, .inl av)), (e4, .inl (cyZ, 1600, .inl un)), (e5, .inl (cyI, 60, .inl kp)), (e6, .inl (cyJ, 60, .inr (.inl bt)))] hs) := by
  refine Met.ofW (cc := cX3_cast) (maxL := 7) (ret := (some .int)) (by decide) rfl ?_
  intro p e s m args below meth c s₁ B hml hv
  obtain ⟨rfl, hsz, hP, hK, hD0⟩ := hv
  have hx := B.exec
  have hb := B.bytes
  have hr := B.returns
  have hts := atoms_spec (ws := wsX3_cast) B.pre
  have hown : s.vm.findClass RX3 = some m.cls := findClass_of_methodNamed B.named
  have hlocks := B.notSynchronized
  subst hsz
  have hD := hD0.self (sz := s.heap.size)
  generalize hAe : va_A [(h3, .inr (5, [.int th, .int ty, .ref e0, .ref e1, .ref e2, .ref e3, .ref e4, .int oc, .ref e5, .ref e6])), (e0, .inl (cyI, 40, .inl so)), (e1, .inl (cyZ, 40, .inl fi)), (e2, .inl (cyI, 40, .inl el)), (e3, .inl (cyI, 120, .inl av)), (e4, .inl (cyZ, 1600, .inl un)), (e5, .inl (cyI, 60, .inl kp)), (e6, .inl (cyJ, 60, .inr (.inl bt)))] s.heap.size = A at hD ⊢
  have hA : ∀ q : Nat, s.heap.size ≤ q → A q := fun q h => by rw [← hAe]; exact Or.inr h
  have hS : va_S A s.heap s.heap [] := va_S.rf
  have hP : va_P (dC, dI) vwCl [(h3, .inr (5, [.int th, .int ty, .ref e0, .ref e1, .ref e2, .ref e3, .ref e4, .int oc, .ref e5, .ref e6])), (e0, .inl (cyI, 40, .inl so)), (e1, .inl (cyZ, 40, .inl fi)), (e2, .inl (cyI, 40, .inl el)), (e3, .inl (cyI, 120, .inl av)), (e4, .inl (cyZ, 1600, .inl un)), (e5, .inl (cyI, 60, .inl kp)), (e6, .inl (cyJ, 60, .inr (.inl bt)))] s.heap := hP
  have hP0 : va_P (dC, dI) vwCl [] s.heap := fun k q h => by simp at h
  have hin_X3 : ∀ w ∈ wsX30, w ∈ wsX3_cast := by decide +kernel
  have hf_40 := hts (.fieldLink RX3 40 "ConversionTablesModel" "thrown" "I") (by decide +kernel)
  have hf_26 := hts (.fieldLink RX3 26 "ConversionTablesModel" "kept" "[I") (by decide +kernel)
  have hf_23 := hts (.fieldLink RX3 23 "ConversionTablesModel" "under" "[Z") (by decide +kernel)
  have hl := lv_entry ([.ref h3, .int x1, .int x2, .int x3]) (n := 7) (Nat.le_of_ble_eq_true rfl)
  rw [lg_entry_eq]
  generalize (lg_sl ([.ref h3, .int x1, .int x2, .int x3]) ++ List.replicate (7 - (lg_sl ([.ref h3, .int x1, .int x2, .int x3])).length) Slot.unset).toArray = ls at hl ⊢
  have hl : lv_has ls 7 [(0, .ref h3), (1, .int x1), (2, .int x2), (3, .int x3)] := hl
  refine lv_aload_n hx hb dX3_cast_0 rfl (lv_at hl 0 rfl) ?_
  refine lv_iconst (v := (0 : Int32)) hx hb dX3_cast_1 (by decide) ?_
  refine va_put (D := (dC, dI)) (ci := 5) (v := .int (0 : Int32)) (ty := .int) (C := RX3) (T := TX3) (N := 10) hx hb hts hin_X3 tyX3 tyX3_ok nmX3 hown hK hP hD hS 0 rfl rfl 0 (by decide) hf_40 (fun _ h9 => h9) rfl (by decide +kernel) rfl rfl (Nat.le_of_ble_eq_true rfl) dX3_cast_2 (fun H locs hP hD hS => ?_)
  have hP : va_P (dC, dI) vwCl [(h3, .inr (5, [.int (0 : Int32), .int ty, .ref e0, .ref e1, .ref e2, .ref e3, .ref e4, .int oc, .ref e5, .ref e6])), (e0, .inl (cyI, 40, .inl so)), (e1, .inl (cyZ, 40, .inl fi)), (e2, .inl (cyI, 40, .inl el)), (e3, .inl (cyI, 120, .inl av)), (e4, .inl (cyZ, 1600, .inl un)), (e5, .inl (cyI, 60, .inl kp)), (e6, .inl (cyJ, 60, .inr (.inl bt)))] H := hP
  have hD : va_D A [(h3, .inr (5, [.int (0 : Int32), .int ty, .ref e0, .ref e1, .ref e2, .ref e3, .ref e4, .int oc, .ref e5, .ref e6])), (e0, .inl (cyI, 40, .inl so)), (e1, .inl (cyZ, 40, .inl fi)), (e2, .inl (cyI, 40, .inl el)), (e3, .inl (cyI, 120, .inl av)), (e4, .inl (cyZ, 1600, .inl un)), (e5, .inl (cyI, 60, .inl kp)), (e6, .inl (cyJ, 60, .inr (.inl bt)))] := hD
  refine lv_aload_n hx hb dX3_cast_5 rfl (lv_at hl 0 rfl) ?_
  refine lv_iload_n hx hb dX3_cast_6 rfl (lv_at hl 1 rfl) ?_
  refine mb_callSi (W.runV (As := [.int x1]) (rest := []) ⟨hx, hb, hml, hown, hts⟩ (c_X3_isObject l dC dI cyI cyZ cyJ h3 e0 e1 e2 e3 e4 e5 e6 so fi el av un ty kp bt oc (0 : Int32) x1) (cwV 1 hts gX3_cast_X3_isObject rfl rfl rfl (by decide +kernel) ⟨Nat.le_of_ble_eq_true rfl, Nat.le_of_ble_eq_true rfl⟩) (mb_preV hK hP (ci := 5) (q0 := 0) rfl rfl) rfl rfl hl.1 rfl (lv_room (Nat.le_of_ble_eq_true rfl)) dX3_cast_7 ⟨Nat.zero_le _, Nat.zero_le _⟩) ?_
  refine lv_if_eq (tgt := 29) hx hb dX3_cast_10 (by decide) (fun c_1 => ?_) (fun c_1 => ?_)
  · refine lv_iconst (v := (-1 : Int32)) hx hb dX3_cast_29 (by decide) ?_
    exact W.iret (v := (-1 : Int32)) hx hb hr (fun t ht hW => ⟨⟨(-1 : Int32), (0 : Int32), rfl, Eq.symm ((if_pos c_1).trans (rfl)), by rw [ht]; exact hP, va_K.moved hW.alike hK, hD⟩, hS.F ht⟩) hS.2.2 dX3_cast_30
  · refine lv_aload_n hx hb dX3_cast_13 rfl (lv_at hl 0 rfl) ?_
    refine lv_iload_n hx hb dX3_cast_14 rfl (lv_at hl 2 rfl) ?_
    refine mb_callSi (W.runV (As := [.int x2]) (rest := []) ⟨hx, hb, hml, hown, hts⟩ (c_X3_isType l dC dI cyI cyZ cyJ h3 e0 e1 e2 e3 e4 e5 e6 so fi el av un ty kp bt oc (0 : Int32) x2) (cwV 1 hts gX3_cast_X3_isType rfl rfl rfl (by decide +kernel) ⟨Nat.le_of_ble_eq_true rfl, Nat.le_of_ble_eq_true rfl⟩) (mb_preV hK hP (ci := 5) (q0 := 0) rfl rfl) rfl rfl hl.1 rfl (lv_room (Nat.le_of_ble_eq_true rfl)) dX3_cast_15 ⟨Nat.zero_le _, Nat.zero_le _⟩) ?_
    refine lv_if_eq (tgt := 29) hx hb dX3_cast_18 (by decide) (fun c_2 => ?_) (fun c_2 => ?_)
    · refine lv_iconst (v := (-1 : Int32)) hx hb dX3_cast_29 (by decide) ?_
      exact W.iret (v := (-1 : Int32)) hx hb hr (fun t ht hW => ⟨⟨(-1 : Int32), (0 : Int32), rfl, Eq.symm ((if_neg c_1).trans ((if_pos c_2).trans (rfl))), by rw [ht]; exact hP, va_K.moved hW.alike hK, hD⟩, hS.F ht⟩) hS.2.2 dX3_cast_30
    · refine lv_aload_n hx hb dX3_cast_21 rfl (lv_at hl 0 rfl) ?_
      refine lv_iload_n hx hb dX3_cast_22 rfl (lv_at hl 3 rfl) ?_
      refine mb_callSi (W.runV (As := [.int x3]) (rest := []) ⟨hx, hb, hml, hown, hts⟩ (c_X3_isType l dC dI cyI cyZ cyJ h3 e0 e1 e2 e3 e4 e5 e6 so fi el av un ty kp bt oc (0 : Int32) x3) (cwV 1 hts gX3_cast_X3_isType rfl rfl rfl (by decide +kernel) ⟨Nat.le_of_ble_eq_true rfl, Nat.le_of_ble_eq_true rfl⟩) (mb_preV hK hP (ci := 5) (q0 := 0) rfl rfl) rfl rfl hl.1 rfl (lv_room (Nat.le_of_ble_eq_true rfl)) dX3_cast_23 ⟨Nat.zero_le _, Nat.zero_le _⟩) ?_
      refine lv_if_ne (tgt := 31) hx hb dX3_cast_26 (by decide) (fun c_3 => ?_) (fun c_3 => ?_)
      · refine lv_aload_n hx hb dX3_cast_31 rfl (lv_at hl 0 rfl) ?_
        refine va_get (D := (dC, dI)) (ci := 5) (v := .ref e5) (C := RX3) (T := TX3) (N := 10) hx hb hts hin_X3 hown hK hP 0 rfl rfl 8 (by decide) hf_26 (fun _ h9 => h9) rfl dX3_cast_32 ?_
        refine lv_iload_n hx hb dX3_cast_35 rfl (lv_at hl 1 rfl) ?_
        refine va_iald hx hb hK hP 6 0 rfl rfl (mb_iso go c_1) dX3_cast_36 ?_
        refine lv_istore (lv' := [(4, .int (kp x1.toNatClampNeg)), (0, .ref h3), (1, .int x1), (2, .int x2), (3, .int x3)]) hx hb dX3_cast_37 hl (by decide) rfl (fun ls hl => ?_)
        refine lv_aload_n hx hb dX3_cast_39 rfl (lv_at hl 1 rfl) ?_
        refine lv_iload_n hx hb dX3_cast_40 rfl (lv_at hl 3 rfl) ?_
        refine mb_callSi (W.runV (As := [.int x2]) (rest := []) ⟨hx, hb, hml, hown, hts⟩ (c_X3_isReference l dC dI cyI cyZ cyJ h3 e0 e1 e2 e3 e4 e5 e6 so fi el av un ty kp bt oc (0 : Int32) x2) (cwV 1 hts gX3_cast_X3_isReference rfl rfl rfl (by decide +kernel) ⟨Nat.le_of_ble_eq_true rfl, Nat.le_of_ble_eq_true rfl⟩) (mb_preV hK hP (ci := 5) (q0 := 0) rfl rfl) rfl rfl hl.1 rfl (lv_room (Nat.le_of_ble_eq_true rfl)) dX3_cast_41 ⟨Nat.zero_le _, Nat.zero_le _⟩) ?_
        refine lv_if_eq (tgt := 62) hx hb dX3_cast_44 (by decide) (fun c_4 => ?_) (fun c_4 => ?_)
        · refine lv_bipush (v := (-2 : Int32)) hx hb dX3_cast_62 (by decide) ?_
          exact W.iret (v := (-2 : Int32)) hx hb hr (fun t ht hW => ⟨⟨(-2 : Int32), (0 : Int32), rfl, Eq.symm ((if_neg c_1).trans ((if_neg c_2).trans ((if_neg c_3).trans ((if_pos c_4).trans (rfl))))), by rw [ht]; exact hP, va_K.moved hW.alike hK, hD⟩, hS.F ht⟩) hS.2.2 dX3_cast_64
        · refine lv_aload_n hx hb dX3_cast_47 rfl (lv_at hl 1 rfl) ?_
          refine va_get (D := (dC, dI)) (ci := 5) (v := .ref e4) (C := RX3) (T := TX3) (N := 10) hx hb hts hin_X3 hown hK hP 0 rfl rfl 6 (by decide) hf_23 (fun _ h9 => h9) rfl dX3_cast_48 ?_
          refine lv_bipush (v := (40 : Int32)) hx hb dX3_cast_51 (by decide) ?_
          refine lv_iload hx hb dX3_cast_53 (lv_at hl 0 rfl) ?_
          refine lv_imul hx hb dX3_cast_55 ?_
          refine lv_iload_n hx hb dX3_cast_56 rfl (lv_at hl 3 rfl) ?_
          refine lv_iadd hx hb dX3_cast_57 ?_
          refine va_zald hx hb hK hP 5 1 rfl rfl (mb_ixv (mb_kown go gt c_1) (mb_ist gz c_2)) dX3_cast_58 ?_
          refine lv_if_ne (tgt := 65) hx hb dX3_cast_59 (by decide) (fun c_5 => ?_) (fun c_5 => ?_)
          · refine lv_aload_n hx hb dX3_cast_65 rfl (lv_at hl 1 rfl) ?_
            refine lv_iload_n hx hb dX3_cast_66 rfl (lv_at hl 3 rfl) ?_
            refine lv_iload_n hx hb dX3_cast_67 rfl (lv_at hl 4 rfl) ?_
            refine lv_iconst (v := (3 : Int32)) hx hb dX3_cast_68 (by decide) ?_
            refine mb_callSi (W.runV (As := [.int x2, .int x3, .int (3 : Int32)]) (rest := []) ⟨hx, hb, hml, hown, hts⟩ (c_X3_kindOf l dC dI cyI cyZ cyJ h3 e0 e1 e2 e3 e4 e5 e6 so fi el av un ty kp bt oc (0 : Int32) x2 x3 (3 : Int32) (mb_ist gz c_2) (mb_ist gz c_3) ge) (cwV 3 hts gX3_cast_X3_kindOf rfl rfl rfl (by decide +kernel) ⟨Nat.le_of_ble_eq_true rfl, Nat.le_of_ble_eq_true rfl⟩) (mb_preV hK hP (ci := 5) (q0 := 0) rfl rfl) rfl rfl hl.1 rfl (lv_room (Nat.le_of_ble_eq_true rfl)) dX3_cast_69 ⟨Nat.zero_le _, Nat.zero_le _⟩) ?_
            refine lv_istore (lv' := [(5, .int (f_X3_kindOf so fi el av un ty kp bt oc x2 x3 (3 : Int32))), (4, .int (kp x1.toNatClampNeg)), (0, .ref h3), (1, .int x1), (2, .int x2), (3, .int x3)]) hx hb dX3_cast_72 hl (by decide) rfl (fun ls hl => ?_)
            refine lv_iload hx hb dX3_cast_74 (lv_at hl 0 rfl) ?_
            refine lv_if_ne (tgt := 82) hx hb dX3_cast_76 (by decide) (fun c_6 => ?_) (fun c_6 => ?_)
            · refine lv_iload hx hb dX3_cast_82 (lv_at hl 1 rfl) ?_
              refine lv_bipush (v := (22 : Int32)) hx hb dX3_cast_84 (by decide) ?_
              refine lv_icmp_ne (tgt := 93) hx hb dX3_cast_86 (by decide) (fun c_7 => ?_) (fun c_7 => ?_)
              · refine lv_iconst (v := (0 : Int32)) hx hb dX3_cast_93 (by decide) ?_
                refine lv_istore (lv' := [(6, .int (0 : Int32)), (5, .int (f_X3_kindOf so fi el av un ty kp bt oc x2 x3 (3 : Int32))), (4, .int (kp x1.toNatClampNeg)), (0, .ref h3), (1, .int x1), (2, .int x2), (3, .int x3)]) hx hb dX3_cast_94 hl (by decide) rfl (fun ls hl => ?_)
                refine lv_iload_n hx hb dX3_cast_96 rfl (lv_at hl 6 rfl) ?_
                refine lv_bipush (v := (8 : Int32)) hx hb dX3_cast_97 (by decide) ?_
                refine lv_icmp_ge (tgt := 133) hx hb dX3_cast_99 (by decide) (fun c_8 => ?_) (fun c_8 => ?_)
                · refine lv_aload_n hx hb dX3_cast_133 rfl (lv_at hl 3 rfl) ?_
                  refine va_get (D := (dC, dI)) (ci := 5) (v := .ref e4) (C := RX3) (T := TX3) (N := 10) hx hb hts hin_X3 hown hK hP 0 rfl rfl 6 (by decide) hf_23 (fun _ h9 => h9) rfl dX3_cast_134 ?_
                  refine lv_bipush (v := (40 : Int32)) hx hb dX3_cast_137 (by decide) ?_
                  refine lv_iload hx hb dX3_cast_139 (lv_at hl 2 rfl) ?_
                  refine lv_imul hx hb dX3_cast_141 ?_
                  refine lv_iload_n hx hb dX3_cast_142 rfl (lv_at hl 6 rfl) ?_
                  refine lv_iadd hx hb dX3_cast_143 ?_
                  refine va_zald hx hb hK hP 5 1 rfl rfl (mb_ixv (mb_kown go gt c_1) (mb_ist gz c_3)) dX3_cast_144 ?_
                  refine lv_if_eq (tgt := 152) hx hb dX3_cast_145 (by decide) (fun c_9 => ?_) (fun c_9 => ?_)
                  · refine lv_iconst (v := (0 : Int32)) hx hb dX3_cast_152 (by decide) ?_
                    exact W.iret (v := (0 : Int32)) hx hb hr (fun t ht hW => ⟨⟨(0 : Int32), (0 : Int32), rfl, Eq.symm ((if_neg c_1).trans ((if_neg c_2).trans ((if_neg c_3).trans ((if_neg c_4).trans ((if_neg c_5).trans ((if_neg c_6).trans ((if_neg c_7).trans ((if_pos c_8).trans ((if_pos c_9).trans (rfl)))))))))), by rw [ht]; exact hP, va_K.moved hW.alike hK, hD⟩, hS.F ht⟩) hS.2.2 dX3_cast_153
                  · refine lv_iconst (v := (1 : Int32)) hx hb dX3_cast_148 (by decide) ?_
                    refine lv_goto (tgt := 153) hx hb dX3_cast_149 (by decide) ?_
                    exact W.iret (v := (1 : Int32)) hx hb hr (fun t ht hW => ⟨⟨(1 : Int32), (0 : Int32), rfl, Eq.symm ((if_neg c_1).trans ((if_neg c_2).trans ((if_neg c_3).trans ((if_neg c_4).trans ((if_neg c_5).trans ((if_neg c_6).trans ((if_neg c_7).trans ((if_pos c_8).trans ((if_neg c_9).trans (rfl)))))))))), by rw [ht]; exact hP, va_K.moved hW.alike hK, hD⟩, hS.F ht⟩) hS.2.2 dX3_cast_153
                · refine lv_iload hx hb dX3_cast_102 (lv_at hl 0 rfl) ?_
                  refine lv_if_eq (tgt := 111) hx hb dX3_cast_104 (by decide) (fun c_10 => ?_) (fun c_10 => ?_)
                  · refine lv_iload hx hb dX3_cast_111 (lv_at hl 1 rfl) ?_
                    refine lv_bipush (v := (11 : Int32)) hx hb dX3_cast_113 (by decide) ?_
                    refine lv_icmp_ne (tgt := 131) hx hb dX3_cast_115 (by decide) (fun c_11 => ?_) (fun c_11 => ?_)
                    · refine lv_iconst (v := (1 : Int32)) hx hb dX3_cast_131 (by decide) ?_
                      exact W.iret (v := (1 : Int32)) hx hb hr (fun t ht hW => ⟨⟨(1 : Int32), (0 : Int32), rfl, Eq.symm ((if_neg c_1).trans ((if_neg c_2).trans ((if_neg c_3).trans ((if_neg c_4).trans ((if_neg c_5).trans ((if_neg c_6).trans ((if_neg c_7).trans ((if_neg c_8).trans ((if_pos c_10).trans ((if_neg c_11).trans (rfl))))))))))), by rw [ht]; exact hP, va_K.moved hW.alike hK, hD⟩, hS.F ht⟩) hS.2.2 dX3_cast_132
                    · refine lv_iload hx hb dX3_cast_118 (lv_at hl 2 rfl) ?_
                      refine lv_iload_n hx hb dX3_cast_120 rfl (lv_at hl 6 rfl) ?_
                      refine lv_bipush (v := (8 : Int32)) hx hb dX3_cast_121 (by decide) ?_
                      refine lv_iadd hx hb dX3_cast_123 ?_
                      refine lv_icmp_eq (tgt := 131) hx hb dX3_cast_124 (by decide) (fun c_12 => ?_) (fun c_12 => ?_)
                      · refine lv_iconst (v := (1 : Int32)) hx hb dX3_cast_131 (by decide) ?_
                        exact W.iret (v := (1 : Int32)) hx hb hr (fun t ht hW => ⟨⟨(1 : Int32), (0 : Int32), rfl, Eq.symm ((if_neg c_1).trans ((if_neg c_2).trans ((if_neg c_3).trans ((if_neg c_4).trans ((if_neg c_5).trans ((if_neg c_6).trans ((if_neg c_7).trans ((if_neg c_8).trans ((if_pos c_10).trans ((if_pos c_11).trans ((if_pos c_12).trans (rfl)))))))))))), by rw [ht]; exact hP, va_K.moved hW.alike hK, hD⟩, hS.F ht⟩) hS.2.2 dX3_cast_132
                      · refine lv_iconst (v := (0 : Int32)) hx hb dX3_cast_127 (by decide) ?_
                        refine lv_goto (tgt := 132) hx hb dX3_cast_128 (by decide) ?_
                        exact W.iret (v := (0 : Int32)) hx hb hr (fun t ht hW => ⟨⟨(0 : Int32), (0 : Int32), rfl, Eq.symm ((if_neg c_1).trans ((if_neg c_2).trans ((if_neg c_3).trans ((if_neg c_4).trans ((if_neg c_5).trans ((if_neg c_6).trans ((if_neg c_7).trans ((if_neg c_8).trans ((if_pos c_10).trans ((if_pos c_11).trans ((if_neg c_12).trans (rfl)))))))))))), by rw [ht]; exact hP, va_K.moved hW.alike hK, hD⟩, hS.F ht⟩) hS.2.2 dX3_cast_132
                  · refine lv_iconst (v := (2 : Int32)) hx hb dX3_cast_107 (by decide) ?_
                    refine lv_goto (tgt := 132) hx hb dX3_cast_108 (by decide) ?_
                    exact W.iret (v := (2 : Int32)) hx hb hr (fun t ht hW => ⟨⟨(2 : Int32), (0 : Int32), rfl, Eq.symm ((if_neg c_1).trans ((if_neg c_2).trans ((if_neg c_3).trans ((if_neg c_4).trans ((if_neg c_5).trans ((if_neg c_6).trans ((if_neg c_7).trans ((if_neg c_8).trans ((if_neg c_10).trans (rfl)))))))))), by rw [ht]; exact hP, va_K.moved hW.alike hK, hD⟩, hS.F ht⟩) hS.2.2 dX3_cast_132
              · refine lv_iconst (v := (1 : Int32)) hx hb dX3_cast_89 (by decide) ?_
                refine lv_goto (tgt := 94) hx hb dX3_cast_90 (by decide) ?_
                refine lv_istore (lv' := [(6, .int (1 : Int32)), (5, .int (f_X3_kindOf so fi el av un ty kp bt oc x2 x3 (3 : Int32))), (4, .int (kp x1.toNatClampNeg)), (0, .ref h3), (1, .int x1), (2, .int x2), (3, .int x3)]) hx hb dX3_cast_94 hl (by decide) rfl (fun ls hl => ?_)
                refine lv_iload_n hx hb dX3_cast_96 rfl (lv_at hl 6 rfl) ?_
                refine lv_bipush (v := (8 : Int32)) hx hb dX3_cast_97 (by decide) ?_
                refine lv_icmp_ge (tgt := 133) hx hb dX3_cast_99 (by decide) (fun c_13 => ?_) (fun c_13 => ?_)
                · refine lv_aload_n hx hb dX3_cast_133 rfl (lv_at hl 3 rfl) ?_
                  refine va_get (D := (dC, dI)) (ci := 5) (v := .ref e4) (C := RX3) (T := TX3) (N := 10) hx hb hts hin_X3 hown hK hP 0 rfl rfl 6 (by decide) hf_23 (fun _ h9 => h9) rfl dX3_cast_134 ?_
                  refine lv_bipush (v := (40 : Int32)) hx hb dX3_cast_137 (by decide) ?_
                  refine lv_iload hx hb dX3_cast_139 (lv_at hl 2 rfl) ?_
                  refine lv_imul hx hb dX3_cast_141 ?_
                  refine lv_iload_n hx hb dX3_cast_142 rfl (lv_at hl 6 rfl) ?_
                  refine lv_iadd hx hb dX3_cast_143 ?_
                  refine va_zald hx hb hK hP 5 1 rfl rfl (mb_ixv (mb_kown go gt c_1) (mb_ist gz c_3)) dX3_cast_144 ?_
                  refine lv_if_eq (tgt := 152) hx hb dX3_cast_145 (by decide) (fun c_14 => ?_) (fun c_14 => ?_)
                  · refine lv_iconst (v := (0 : Int32)) hx hb dX3_cast_152 (by decide) ?_
                    exact W.iret (v := (0 : Int32)) hx hb hr (fun t ht hW => ⟨⟨(0 : Int32), (0 : Int32), rfl, Eq.symm ((if_neg c_1).trans ((if_neg c_2).trans ((if_neg c_3).trans ((if_neg c_4).trans ((if_neg c_5).trans ((if_neg c_6).trans ((if_pos c_7).trans ((if_pos c_13).trans ((if_pos c_14).trans (rfl)))))))))), by rw [ht]; exact hP, va_K.moved hW.alike hK, hD⟩, hS.F ht⟩) hS.2.2 dX3_cast_153
                  · refine lv_iconst (v := (1 : Int32)) hx hb dX3_cast_148 (by decide) ?_
                    refine lv_goto (tgt := 153) hx hb dX3_cast_149 (by decide) ?_
                    exact W.iret (v := (1 : Int32)) hx hb hr (fun t ht hW => ⟨⟨(1 : Int32), (0 : Int32), rfl, Eq.symm ((if_neg c_1).trans ((if_neg c_2).trans ((if_neg c_3).trans ((if_neg c_4).trans ((if_neg c_5).trans ((if_neg c_6).trans ((if_pos c_7).trans ((if_pos c_13).trans ((if_neg c_14).trans (rfl)))))))))), by rw [ht]; exact hP, va_K.moved hW.alike hK, hD⟩, hS.F ht⟩) hS.2.2 dX3_cast_153
                · refine lv_iload hx hb dX3_cast_102 (lv_at hl 0 rfl) ?_
                  refine lv_if_eq (tgt := 111) hx hb dX3_cast_104 (by decide) (fun c_15 => ?_) (fun c_15 => ?_)
                  · refine lv_iload hx hb dX3_cast_111 (lv_at hl 1 rfl) ?_
                    refine lv_bipush (v := (11 : Int32)) hx hb dX3_cast_113 (by decide) ?_
                    refine lv_icmp_ne (tgt := 131) hx hb dX3_cast_115 (by decide) (fun c_16 => ?_) (fun c_16 => ?_)
                    · refine lv_iconst (v := (1 : Int32)) hx hb dX3_cast_131 (by decide) ?_
                      exact W.iret (v := (1 : Int32)) hx hb hr (fun t ht hW => ⟨⟨(1 : Int32), (0 : Int32), rfl, Eq.symm ((if_neg c_1).trans ((if_neg c_2).trans ((if_neg c_3).trans ((if_neg c_4).trans ((if_neg c_5).trans ((if_neg c_6).trans ((if_pos c_7).trans ((if_neg c_13).trans ((if_pos c_15).trans ((if_neg c_16).trans (rfl))))))))))), by rw [ht]; exact hP, va_K.moved hW.alike hK, hD⟩, hS.F ht⟩) hS.2.2 dX3_cast_132
                    · refine lv_iload hx hb dX3_cast_118 (lv_at hl 2 rfl) ?_
                      refine lv_iload_n hx hb dX3_cast_120 rfl (lv_at hl 6 rfl) ?_
                      refine lv_bipush (v := (8 : Int32)) hx hb dX3_cast_121 (by decide) ?_
                      refine lv_iadd hx hb dX3_cast_123 ?_
                      refine lv_icmp_eq (tgt := 131) hx hb dX3_cast_124 (by decide) (fun c_17 => ?_) (fun c_17 => ?_)
                      · refine lv_iconst (v := (1 : Int32)) hx hb dX3_cast_131 (by decide) ?_
                        exact W.iret (v := (1 : Int32)) hx hb hr (fun t ht hW => ⟨⟨(1 : Int32), (0 : Int32), rfl, Eq.symm ((if_neg c_1).trans ((if_neg c_2).trans ((if_neg c_3).trans ((if_neg c_4).trans ((if_neg c_5).trans ((if_neg c_6).trans ((if_pos c_7).trans ((if_neg c_13).trans ((if_pos c_15).trans ((if_pos c_16).trans ((if_pos c_17).trans (rfl)))))))))))), by rw [ht]; exact hP, va_K.moved hW.alike hK, hD⟩, hS.F ht⟩) hS.2.2 dX3_cast_132
                      · refine lv_iconst (v := (0 : Int32)) hx hb dX3_cast_127 (by decide) ?_
                        refine lv_goto (tgt := 132) hx hb dX3_cast_128 (by decide) ?_
                        exact W.iret (v := (0 : Int32)) hx hb hr (fun t ht hW => ⟨⟨(0 : Int32), (0 : Int32), rfl, Eq.symm ((if_neg c_1).trans ((if_neg c_2).trans ((if_neg c_3).trans ((if_neg c_4).trans ((if_neg c_5).trans ((if_neg c_6).trans ((if_pos c_7).trans ((if_neg c_13).trans ((if_pos c_15).trans ((if_pos c_16).trans ((if_neg c_17).trans (rfl)))))))))))), by rw [ht]; exact hP, va_K.moved hW.alike hK, hD⟩, hS.F ht⟩) hS.2.2 dX3_cast_132
                  · refine lv_iconst (v := (2 : Int32)) hx hb dX3_cast_107 (by decide) ?_
                    refine lv_goto (tgt := 132) hx hb dX3_cast_108 (by decide) ?_
                    exact W.iret (v := (2 : Int32)) hx hb hr (fun t ht hW => ⟨⟨(2 : Int32), (0 : Int32), rfl, Eq.symm ((if_neg c_1).trans ((if_neg c_2).trans ((if_neg c_3).trans ((if_neg c_4).trans ((if_neg c_5).trans ((if_neg c_6).trans ((if_pos c_7).trans ((if_neg c_13).trans ((if_neg c_15).trans (rfl)))))))))), by rw [ht]; exact hP, va_K.moved hW.alike hK, hD⟩, hS.F ht⟩) hS.2.2 dX3_cast_132
            · refine lv_bipush (v := (-2 : Int32)) hx hb dX3_cast_79 (by decide) ?_
              exact W.iret (v := (-2 : Int32)) hx hb hr (fun t ht hW => ⟨⟨(-2 : Int32), (0 : Int32), rfl, Eq.symm ((if_neg c_1).trans ((if_neg c_2).trans ((if_neg c_3).trans ((if_neg c_4).trans ((if_neg c_5).trans ((if_pos c_6).trans (rfl))))))), by rw [ht]; exact hP, va_K.moved hW.alike hK, hD⟩, hS.F ht⟩) hS.2.2 dX3_cast_81
          · refine lv_bipush (v := (-2 : Int32)) hx hb dX3_cast_62 (by decide) ?_
            exact W.iret (v := (-2 : Int32)) hx hb hr (fun t ht hW => ⟨⟨(-2 : Int32), (0 : Int32), rfl, Eq.symm ((if_neg c_1).trans ((if_neg c_2).trans ((if_neg c_3).trans ((if_neg c_4).trans ((if_pos c_5).trans (rfl)))))), by rw [ht]; exact hP, va_K.moved hW.alike hK, hD⟩, hS.F ht⟩) hS.2.2 dX3_cast_64
      · refine lv_iconst (v := (-1 : Int32)) hx hb dX3_cast_29 (by decide) ?_
        exact W.iret (v := (-1 : Int32)) hx hb hr (fun t ht hW => ⟨⟨(-1 : Int32), (0 : Int32), rfl, Eq.symm ((if_neg c_1).trans ((if_neg c_2).trans ((if_pos c_3).trans (rfl)))), by rw [ht]; exact hP, va_K.moved hW.alike hK, hD⟩, hS.F ht⟩) hS.2.2 dX3_cast_30
def f_X3_count (th : Int32) (so : Nat → Int32) (fi : Nat → Int32) (el : Nat → Int32) (av : Nat → Int32) (un : Nat → Int32) (ty : Int32) (kp : Nat → Int32) (bt : Nat → Int64) (oc : Int32) (x1 : Int32) : Int32 × ((Int32)) := if x1 = 0 then (ty, (0 : Int32))
  else if x1 = (1 : Int32) then (oc, (0 : Int32))
  else ((-1 : Int32), (0 : Int32))
set_option maxHeartbeats 4000000 in
set_option maxRecDepth 100000 in
theorem c_X3_count (l : Launch) (dC : Nat → ClassId) (dI : Nat → Nat → Nat) (cyI cyZ cyJ : ClassId) (h3 e0 e1 e2 e3 e4 e5 e6 : Nat) (th : Int32) (so : Nat → Int32) (fi : Nat → Int32) (el : Nat → Int32) (av : Nat → Int32) (un : Nat → Int32) (ty : Int32) (kp : Nat → Int32) (bt : Nat → Int64) (oc : Int32) (hs : Nat) (x1 : Int32) : Met l yX3_count wsX3_count ({ frames := 0, cells := 0, slots := 0, locals := 0 }) (va_Pc [.ref h3, .int x1] (mb_M (dC, dI) (mb_tys cyI cyZ cyJ) hs [(h3, .inr (5, [.int th, .int ty, .ref e0, .ref e1, .ref e2, .ref e3, .ref e4, .int oc, .ref e5, .ref e6])), (e0, .inl (cyI, 40, .inl so)), (e1, .inl (cyZ, 40, .inl fi)), (e2, .inl (cyI, 40, .inl el)), (e3, .inl (cyI, 120, .inl av)), (e4, .inl (cyZ, 1600, .inl un)), (e5, .inl (cyI, 60, .inl kp)), (e6, .inl (cyJ, 60, .inr (.inl bt)))])) (va_Qi (S := ((Int32))) (fun r u => (r, u) = f_X3_count th so fi el av un ty kp bt oc x1) (fun u t => mb_at dC dI cyI cyZ cyJ (va_A [(h3, .inr (5, [.int th, .int ty, .ref e0, .ref e1, .ref e2, .ref e3, .ref e4, .int oc, .ref e5, .ref e6])), (e0, .inl (cyI, 40, .inl so)), (e1, .inl (cyZ, 40, .inl fi)), (e2, .inl (cyI, 40, .inl el)), (e3, .inl (cyI, 120, .inl av)), (e4, .inl (cyZ, 1600, .inl un)), (e5, .inl (cyI, 60, .inl kp)), (e6, .inl (cyJ, 60, .inr (.inl bt)))] hs) [(h3, .inr (5, [.int u, .int ty, .ref e0, .ref e1, .ref e2, .ref e3, .ref e4, .int oc, .ref e5, .ref e6])), (e0, .inl (cyI, 40, .inl so)), (e1, .inl (cyZ, 40, .inl fi)), (e2, .inl (cyI, 40, .inl el)), (e3, .inl (cyI, 120, .inl av)), (e4, .inl (cyZ, 1600, .inl un)), (e5, .inl (cyI, 60, .inl kp)), (e6, .inl (cyJ, 60, .inr (.inl bt)))] t) (va_A [(h3, .inr (5, [.int th, .int ty, .ref e0, .ref e1, .ref e2, .ref e3, .ref e4, .int oc, .ref e5, .ref e6])), (e0, .inl (cyI, 40, .inl so)), (e1, .inl (cyZ, 40, .inl fi)), (e2, .inl (cyI, 40, .inl el)), (e3, .inl (cyI, 120, .inl av)), (e4, .inl (cyZ, 1600, .inl un)), (e5, .inl (cyI, 60, .inl kp)), (e6, .inl (cyJ, 60, .inr (.inl bt)))] hs)) 0 0 (va_A [(h3, .inr (5, [.int th, .int ty, .ref e0, .ref e1, .ref e2, .ref e3, .ref e4, .int oc, .ref e5, .ref e6])), (e0, .inl (cyI, 40, .inl so)), (e1, .inl (cyZ, 40, .inl fi)), (e2, .inl (cyI, 40, .inl el)), (e3, .inl (cyI, 120, .inl av)), (e4, .inl (cyZ, 1600, .inl un)), (e5, .inl (cyI, 60, .inl kp)), (e6, .inl (cyJ, 60, .inr (.inl bt)))] hs) := by
  refine Met.ofW (cc := cX3_count) (maxL := 2) (ret := (some .int)) (by decide) rfl ?_
  intro p e s m args below meth c s₁ B hml hv
  obtain ⟨rfl, hsz, hP, hK, hD0⟩ := hv
  have hx := B.exec
  have hb := B.bytes
  have hr := B.returns
  have hts := atoms_spec (ws := wsX3_count) B.pre
  have hown : s.vm.findClass RX3 = some m.cls := findClass_of_methodNamed B.named
  have hlocks := B.notSynchronized
  subst hsz
  have hD := hD0.self (sz := s.heap.size)
  generalize hAe : va_A [(h3, .inr (5, [.int th, .int ty, .ref e0, .ref e1, .ref e2, .ref e3, .ref e4, .int oc, .ref e5, .ref e6])), (e0, .inl (cyI, 40, .inl so)), (e1, .inl (cyZ, 40, .inl fi)), (e2, .inl (cyI, 40, .inl el)), (e3, .inl (cyI, 120, .inl av)), (e4, .inl (cyZ, 1600, .inl un)), (e5, .inl (cyI, 60, .inl kp)), (e6, .inl (cyJ, 60, .inr (.inl bt)))] s.heap.size = A at hD ⊢
  have hA : ∀ q : Nat, s.heap.size ≤ q → A q := fun q h => by rw [← hAe]; exact Or.inr h
  have hS : va_S A s.heap s.heap [] := va_S.rf
  have hP : va_P (dC, dI) vwCl [(h3, .inr (5, [.int th, .int ty, .ref e0, .ref e1, .ref e2, .ref e3, .ref e4, .int oc, .ref e5, .ref e6])), (e0, .inl (cyI, 40, .inl so)), (e1, .inl (cyZ, 40, .inl fi)), (e2, .inl (cyI, 40, .inl el)), (e3, .inl (cyI, 120, .inl av)), (e4, .inl (cyZ, 1600, .inl un)), (e5, .inl (cyI, 60, .inl kp)), (e6, .inl (cyJ, 60, .inr (.inl bt)))] s.heap := hP
  have hP0 : va_P (dC, dI) vwCl [] s.heap := fun k q h => by simp at h
  have hin_X3 : ∀ w ∈ wsX30, w ∈ wsX3_count := by decide +kernel
  have hf_40 := hts (.fieldLink RX3 40 "ConversionTablesModel" "thrown" "I") (by decide +kernel)
  have hf_168 := hts (.fieldLink RX3 168 "ConversionTablesModel" "objects" "I") (by decide +kernel)
  have hf_44 := hts (.fieldLink RX3 44 "ConversionTablesModel" "types" "I") (by decide +kernel)
  have hl := lv_entry ([.ref h3, .int x1]) (n := 2) (Nat.le_of_ble_eq_true rfl)
  rw [lg_entry_eq]
  generalize (lg_sl ([.ref h3, .int x1]) ++ List.replicate (2 - (lg_sl ([.ref h3, .int x1])).length) Slot.unset).toArray = ls at hl ⊢
  have hl : lv_has ls 2 [(0, .ref h3), (1, .int x1)] := hl
  refine lv_aload_n hx hb dX3_count_0 rfl (lv_at hl 0 rfl) ?_
  refine lv_iconst (v := (0 : Int32)) hx hb dX3_count_1 (by decide) ?_
  refine va_put (D := (dC, dI)) (ci := 5) (v := .int (0 : Int32)) (ty := .int) (C := RX3) (T := TX3) (N := 10) hx hb hts hin_X3 tyX3 tyX3_ok nmX3 hown hK hP hD hS 0 rfl rfl 0 (by decide) hf_40 (fun _ h9 => h9) rfl (by decide +kernel) rfl rfl (Nat.le_of_ble_eq_true rfl) dX3_count_2 (fun H locs hP hD hS => ?_)
  have hP : va_P (dC, dI) vwCl [(h3, .inr (5, [.int (0 : Int32), .int ty, .ref e0, .ref e1, .ref e2, .ref e3, .ref e4, .int oc, .ref e5, .ref e6])), (e0, .inl (cyI, 40, .inl so)), (e1, .inl (cyZ, 40, .inl fi)), (e2, .inl (cyI, 40, .inl el)), (e3, .inl (cyI, 120, .inl av)), (e4, .inl (cyZ, 1600, .inl un)), (e5, .inl (cyI, 60, .inl kp)), (e6, .inl (cyJ, 60, .inr (.inl bt)))] H := hP
  have hD : va_D A [(h3, .inr (5, [.int (0 : Int32), .int ty, .ref e0, .ref e1, .ref e2, .ref e3, .ref e4, .int oc, .ref e5, .ref e6])), (e0, .inl (cyI, 40, .inl so)), (e1, .inl (cyZ, 40, .inl fi)), (e2, .inl (cyI, 40, .inl el)), (e3, .inl (cyI, 120, .inl av)), (e4, .inl (cyZ, 1600, .inl un)), (e5, .inl (cyI, 60, .inl kp)), (e6, .inl (cyJ, 60, .inr (.inl bt)))] := hD
  refine lv_iload_n hx hb dX3_count_5 rfl (lv_at hl 1 rfl) ?_
  refine lv_if_ne (tgt := 16) hx hb dX3_count_6 (by decide) (fun c_1 => ?_) (fun c_1 => ?_)
  · refine lv_iload_n hx hb dX3_count_16 rfl (lv_at hl 1 rfl) ?_
    refine lv_iconst (v := (1 : Int32)) hx hb dX3_count_17 (by decide) ?_
    refine lv_icmp_ne (tgt := 28) hx hb dX3_count_18 (by decide) (fun c_2 => ?_) (fun c_2 => ?_)
    · refine lv_iconst (v := (-1 : Int32)) hx hb dX3_count_28 (by decide) ?_
      exact W.iret (v := (-1 : Int32)) hx hb hr (fun t ht hW => ⟨⟨(-1 : Int32), (0 : Int32), rfl, Eq.symm ((if_neg c_1).trans ((if_neg c_2).trans (rfl))), by rw [ht]; exact hP, va_K.moved hW.alike hK, hD⟩, hS.F ht⟩) hS.2.2 dX3_count_29
    · refine lv_aload_n hx hb dX3_count_21 rfl (lv_at hl 0 rfl) ?_
      refine va_get (D := (dC, dI)) (ci := 5) (v := .int oc) (C := RX3) (T := TX3) (N := 10) hx hb hts hin_X3 hown hK hP 0 rfl rfl 7 (by decide) hf_168 (fun _ h9 => h9) rfl dX3_count_22 ?_
      refine lv_goto (tgt := 29) hx hb dX3_count_25 (by decide) ?_
      exact W.iret (v := oc) hx hb hr (fun t ht hW => ⟨⟨oc, (0 : Int32), rfl, Eq.symm ((if_neg c_1).trans ((if_pos c_2).trans (rfl))), by rw [ht]; exact hP, va_K.moved hW.alike hK, hD⟩, hS.F ht⟩) hS.2.2 dX3_count_29
  · refine lv_aload_n hx hb dX3_count_9 rfl (lv_at hl 0 rfl) ?_
    refine va_get (D := (dC, dI)) (ci := 5) (v := .int ty) (C := RX3) (T := TX3) (N := 10) hx hb hts hin_X3 hown hK hP 0 rfl rfl 1 (by decide) hf_44 (fun _ h9 => h9) rfl dX3_count_10 ?_
    refine lv_goto (tgt := 29) hx hb dX3_count_13 (by decide) ?_
    exact W.iret (v := ty) hx hb hr (fun t ht hW => ⟨⟨ty, (0 : Int32), rfl, Eq.symm ((if_pos c_1).trans (rfl)), by rw [ht]; exact hP, va_K.moved hW.alike hK, hD⟩, hS.F ht⟩) hS.2.2 dX3_count_29

def f_X3_whole_131 (x1 : Int64) (x2 : Int64) (x3 : Int64) (v : Int64) : Int64 := if x2 ≤ v then (if v ≤ x3 then v
    else x3)
  else x2
def f_X3_whole_116 (x1 : Int64) (x2 : Int64) (x3 : Int64) (bl : Int32) (v : Int64) : Int64 := if bl = 0 then f_X3_whole_131 x1 x2 x3 v
  else f_X3_whole_131 x1 x2 x3 (-v)
def f_X3_whole_46 (x1 : Int64) (x2 : Int64) (x3 : Int64) (ee : Int32) (mm : Int64) (bl : Int32) : Int64 := if 0 ≤ (ee - (1023 : Int32)) then (if (ee - (1023 : Int32)) ≤ (62 : Int32) then (if (ee - (1023 : Int32)) ≤ (52 : Int32) then f_X3_whole_116 x1 x2 x3 bl (((mm ||| (4503599627370496 : Int64)).toUInt64 >>> (((52 : Int32) - (ee - (1023 : Int32))).toInt64.toUInt64 &&& Int64.toUInt64 63)).toInt64)
      else f_X3_whole_116 x1 x2 x3 bl ((mm ||| (4503599627370496 : Int64)) <<< (((ee - (1023 : Int32)) - (52 : Int32)).toInt64 &&& 63)))
    else if bl = 0 then x3
    else x2)
  else (0 : Int64)
def f_X3_whole_35 (x1 : Int64) (x2 : Int64) (x3 : Int64) (ee : Int32) (mm : Int64) : Int64 := if (0 : Int64) ≤ x1 then f_X3_whole_46 x1 x2 x3 ee mm (0 : Int32)
  else f_X3_whole_46 x1 x2 x3 ee mm (1 : Int32)
def f_X3_whole_z_9 (x1 : Int64) (x2 : Int64) (x3 : Int64) (z_9 : Int32) : Int64 := if z_9 = (2047 : Int32) then (if (x1 &&& (4503599627370495 : Int64)) = (0 : Int64) then f_X3_whole_35 x1 x2 x3 z_9 (x1 &&& (4503599627370495 : Int64))
    else (0 : Int64))
  else f_X3_whole_35 x1 x2 x3 z_9 (x1 &&& (4503599627370495 : Int64))
def f_X3_whole (x1 : Int64) (x2 : Int64) (x3 : Int64) : Int64 := f_X3_whole_z_9 x1 x2 x3 ((((x1.toUInt64 >>> ((52 : Int32).toInt64.toUInt64 &&& Int64.toUInt64 63)).toInt64).toInt32) &&& (2047 : Int32))
set_option maxHeartbeats 4000000 in
set_option maxRecDepth 100000 in
theorem c_X3_whole (l : Launch) (x1 : Int64) (x2 : Int64) (x3 : Int64) : Met l yX3_whole wsX3_whole ({ frames := 0, cells := 0, slots := 0, locals := 0 }) (va_Pc [.long x1, .long x2, .long x3] (fun _ => True)) (vp_Sl (fun r => r = f_X3_whole x1 x2 x3)) 0 0 (fun _ => False) := by
  refine Met.ofW (cc := cX3_whole) (maxL := 13) (ret := (some .long)) (by decide) rfl ?_
  intro p e s m args below meth c s₁ B hml hv
  obtain ⟨rfl, -⟩ := hv
  have hx := B.exec
  have hb := B.bytes
  have hr := B.returns
  have hts := atoms_spec (ws := wsX3_whole) B.pre
  have hown : s.vm.findClass RX3 = some m.cls := findClass_of_methodNamed B.named
  have hlocks := B.notSynchronized
  have K_131 : ∀ (v : Int64) (ls : Array Slot) , lv_has ls 13 [(2, .long x2), (4, .long x3)] → f_X3_whole x1 x2 x3 = f_X3_whole_131 x1 x2 x3 v → W p l e (headSpec wsX3_whole ({ frames := 0, cells := 0, slots := 0, locals := 0 })).room s m ([.long x1, .long x2, .long x3] : List Value).toArray below meth c s.heap [] 0 0 (MQ below (vp_Sl (fun r => r = f_X3_whole x1 x2 x3)) ([.long x1, .long x2, .long x3] : List Value).toArray s 0 0 (fun _ => False)) (F0 m 131 ls [.long v]) := by
    intro v ls  hl hz
    refine lv_lstore (lv' := [(11, .long v), (2, .long x2), (4, .long x3)]) hx hb dX3_whole_131 hl (by decide) rfl (fun ls hl => ?_)
    refine lv_lload hx hb dX3_whole_133 (lv_at hl 0 rfl) ?_
    refine lv_lload_n hx hb dX3_whole_135 rfl (lv_at hl 1 rfl) ?_
    refine mb_lc_ge (tgt := 144) hx hb dX3_whole_136 dX3_whole_137 (by decide) (fun c_1 => ?_) (fun c_1 => ?_)
    · refine lv_lload hx hb dX3_whole_144 (lv_at hl 0 rfl) ?_
      refine lv_lload hx hb dX3_whole_146 (lv_at hl 2 rfl) ?_
      refine mb_lc_le (tgt := 157) hx hb dX3_whole_148 dX3_whole_149 (by decide) (fun c_2 => ?_) (fun c_2 => ?_)
      · refine lv_lload hx hb dX3_whole_157 (lv_at hl 0 rfl) ?_
        exact W.lret (v := v) hx hb hr (fun t ht hW => ⟨v, rfl, Eq.symm (hz.trans ((if_pos c_1).trans ((if_pos c_2).trans (rfl)))), ht⟩) (fun q h => by cases h) dX3_whole_159
      · refine lv_lload hx hb dX3_whole_152 (lv_at hl 2 rfl) ?_
        refine lv_goto (tgt := 159) hx hb dX3_whole_154 (by decide) ?_
        exact W.lret (v := x3) hx hb hr (fun t ht hW => ⟨x3, rfl, Eq.symm (hz.trans ((if_pos c_1).trans ((if_neg c_2).trans (rfl)))), ht⟩) (fun q h => by cases h) dX3_whole_159
    · refine lv_lload_n hx hb dX3_whole_140 rfl (lv_at hl 1 rfl) ?_
      refine lv_goto (tgt := 159) hx hb dX3_whole_141 (by decide) ?_
      exact W.lret (v := x2) hx hb hr (fun t ht hW => ⟨x2, rfl, Eq.symm (hz.trans ((if_neg c_1).trans (rfl))), ht⟩) (fun q h => by cases h) dX3_whole_159
  have K_116 : ∀ (bl : Int32) (v : Int64) (ls : Array Slot) , lv_has ls 13 [(2, .long x2), (4, .long x3), (9, .int bl)] → f_X3_whole x1 x2 x3 = f_X3_whole_116 x1 x2 x3 bl v → W p l e (headSpec wsX3_whole ({ frames := 0, cells := 0, slots := 0, locals := 0 })).room s m ([.long x1, .long x2, .long x3] : List Value).toArray below meth c s.heap [] 0 0 (MQ below (vp_Sl (fun r => r = f_X3_whole x1 x2 x3)) ([.long x1, .long x2, .long x3] : List Value).toArray s 0 0 (fun _ => False)) (F0 m 116 ls [.long v]) := by
    intro bl v ls  hl hz
    refine lv_lstore (lv' := [(11, .long v), (2, .long x2), (4, .long x3), (9, .int bl)]) hx hb dX3_whole_116 hl (by decide) rfl (fun ls hl => ?_)
    refine lv_iload hx hb dX3_whole_118 (lv_at hl 3 rfl) ?_
    refine lv_if_eq (tgt := 129) hx hb dX3_whole_120 (by decide) (fun c_3 => ?_) (fun c_3 => ?_)
    · refine lv_lload hx hb dX3_whole_129 (lv_at hl 0 rfl) ?_
      exact K_131 v ls  (lv_sub hl [1, 2] rfl) (hz.trans ((if_pos c_3).trans (rfl)))
    · refine lv_lload hx hb dX3_whole_123 (lv_at hl 0 rfl) ?_
      refine lv_lneg hx hb dX3_whole_125 ?_
      refine lv_goto (tgt := 131) hx hb dX3_whole_126 (by decide) ?_
      exact K_131 (-v) ls  (lv_sub hl [1, 2] rfl) (hz.trans ((if_neg c_3).trans (rfl)))
  have K_46 : ∀ (ee : Int32) (mm : Int64) (bl : Int32) (ls : Array Slot) , lv_has ls 13 [(2, .long x2), (4, .long x3), (6, .int ee), (7, .long mm)] → f_X3_whole x1 x2 x3 = f_X3_whole_46 x1 x2 x3 ee mm bl → W p l e (headSpec wsX3_whole ({ frames := 0, cells := 0, slots := 0, locals := 0 })).room s m ([.long x1, .long x2, .long x3] : List Value).toArray below meth c s.heap [] 0 0 (MQ below (vp_Sl (fun r => r = f_X3_whole x1 x2 x3)) ([.long x1, .long x2, .long x3] : List Value).toArray s 0 0 (fun _ => False)) (F0 m 46 ls [.int bl]) := by
    intro ee mm bl ls  hl hz
    refine lv_istore (lv' := [(9, .int bl), (2, .long x2), (4, .long x3), (6, .int ee), (7, .long mm)]) hx hb dX3_whole_46 hl (by decide) rfl (fun ls hl => ?_)
    refine lv_iload hx hb dX3_whole_48 (lv_at hl 3 rfl) ?_
    refine lv_sipush (v := (1023 : Int32)) hx hb dX3_whole_50 (by decide) ?_
    refine lv_isub hx hb dX3_whole_53 ?_
    refine lv_istore (lv' := [(10, .int (ee - (1023 : Int32))), (9, .int bl), (2, .long x2), (4, .long x3), (6, .int ee), (7, .long mm)]) hx hb dX3_whole_54 hl (by decide) rfl (fun ls hl => ?_)
    refine lv_iload hx hb dX3_whole_56 (lv_at hl 0 rfl) ?_
    refine lv_if_ge (tgt := 63) hx hb dX3_whole_58 (by decide) (fun c_4 => ?_) (fun c_4 => ?_)
    · refine lv_iload hx hb dX3_whole_63 (lv_at hl 0 rfl) ?_
      refine lv_bipush (v := (62 : Int32)) hx hb dX3_whole_65 (by decide) ?_
      refine lv_icmp_le (tgt := 82) hx hb dX3_whole_67 (by decide) (fun c_5 => ?_) (fun c_5 => ?_)
      · refine lv_lload hx hb dX3_whole_82 (lv_at hl 5 rfl) ?_
        refine lv_ldc2 (v := (4503599627370496 : Int64)) hx hb hown (hts (.constantLong RX3 126 (4503599627370496)) (by decide +kernel)) dX3_whole_84 ?_
        refine lv_lor hx hb dX3_whole_87 ?_
        refine lv_lstore (lv' := [(7, .long (mm ||| (4503599627370496 : Int64))), (10, .int (ee - (1023 : Int32))), (9, .int bl), (2, .long x2), (4, .long x3), (6, .int ee)]) hx hb dX3_whole_88 hl (by decide) rfl (fun ls hl => ?_)
        refine lv_iload hx hb dX3_whole_90 (lv_at hl 1 rfl) ?_
        refine lv_bipush (v := (52 : Int32)) hx hb dX3_whole_92 (by decide) ?_
        refine lv_icmp_le (tgt := 108) hx hb dX3_whole_94 (by decide) (fun c_6 => ?_) (fun c_6 => ?_)
        · refine lv_lload hx hb dX3_whole_108 (lv_at hl 0 rfl) ?_
          refine lv_bipush (v := (52 : Int32)) hx hb dX3_whole_110 (by decide) ?_
          refine lv_iload hx hb dX3_whole_112 (lv_at hl 1 rfl) ?_
          refine lv_isub hx hb dX3_whole_114 ?_
          refine lv_lushr hx hb dX3_whole_115 rfl ?_
          exact K_116 bl (((mm ||| (4503599627370496 : Int64)).toUInt64 >>> (((52 : Int32) - (ee - (1023 : Int32))).toInt64.toUInt64 &&& Int64.toUInt64 63)).toInt64) ls  (lv_sub hl [3, 4, 2] rfl) (hz.trans ((if_pos c_4).trans ((if_pos c_5).trans ((if_pos c_6).trans (rfl)))))
        · refine lv_lload hx hb dX3_whole_97 (lv_at hl 0 rfl) ?_
          refine lv_iload hx hb dX3_whole_99 (lv_at hl 1 rfl) ?_
          refine lv_bipush (v := (52 : Int32)) hx hb dX3_whole_101 (by decide) ?_
          refine lv_isub hx hb dX3_whole_103 ?_
          refine lv_lshl hx hb dX3_whole_104 rfl ?_
          refine lv_goto (tgt := 116) hx hb dX3_whole_105 (by decide) ?_
          exact K_116 bl ((mm ||| (4503599627370496 : Int64)) <<< (((ee - (1023 : Int32)) - (52 : Int32)).toInt64 &&& 63)) ls  (lv_sub hl [3, 4, 2] rfl) (hz.trans ((if_pos c_4).trans ((if_pos c_5).trans ((if_neg c_6).trans (rfl)))))
      · refine lv_iload hx hb dX3_whole_70 (lv_at hl 1 rfl) ?_
        refine lv_if_eq (tgt := 79) hx hb dX3_whole_72 (by decide) (fun c_7 => ?_) (fun c_7 => ?_)
        · refine lv_lload hx hb dX3_whole_79 (lv_at hl 3 rfl) ?_
          exact W.lret (v := x3) hx hb hr (fun t ht hW => ⟨x3, rfl, Eq.symm (hz.trans ((if_pos c_4).trans ((if_neg c_5).trans ((if_pos c_7).trans (rfl))))), ht⟩) (fun q h => by cases h) dX3_whole_81
        · refine lv_lload_n hx hb dX3_whole_75 rfl (lv_at hl 2 rfl) ?_
          refine lv_goto (tgt := 81) hx hb dX3_whole_76 (by decide) ?_
          exact W.lret (v := x2) hx hb hr (fun t ht hW => ⟨x2, rfl, Eq.symm (hz.trans ((if_pos c_4).trans ((if_neg c_5).trans ((if_neg c_7).trans (rfl))))), ht⟩) (fun q h => by cases h) dX3_whole_81
    · refine lv_lconst (v := (0 : Int64)) hx hb dX3_whole_61 (by decide) ?_
      exact W.lret (v := (0 : Int64)) hx hb hr (fun t ht hW => ⟨(0 : Int64), rfl, Eq.symm (hz.trans ((if_neg c_4).trans (rfl))), ht⟩) (fun q h => by cases h) dX3_whole_62
  have K_35 : ∀ (ee : Int32) (mm : Int64) (ls : Array Slot) , lv_has ls 13 [(0, .long x1), (2, .long x2), (4, .long x3), (6, .int ee), (7, .long mm)] → f_X3_whole x1 x2 x3 = f_X3_whole_35 x1 x2 x3 ee mm → W p l e (headSpec wsX3_whole ({ frames := 0, cells := 0, slots := 0, locals := 0 })).room s m ([.long x1, .long x2, .long x3] : List Value).toArray below meth c s.heap [] 0 0 (MQ below (vp_Sl (fun r => r = f_X3_whole x1 x2 x3)) ([.long x1, .long x2, .long x3] : List Value).toArray s 0 0 (fun _ => False)) (F0 m 35 ls []) := by
    intro ee mm ls  hl hz
    refine lv_lload_n hx hb dX3_whole_35 rfl (lv_at hl 0 rfl) ?_
    refine lv_lconst (v := (0 : Int64)) hx hb dX3_whole_36 (by decide) ?_
    refine mb_lc_ge (tgt := 45) hx hb dX3_whole_37 dX3_whole_38 (by decide) (fun c_8 => ?_) (fun c_8 => ?_)
    · refine lv_iconst (v := (0 : Int32)) hx hb dX3_whole_45 (by decide) ?_
      exact K_46 ee mm (0 : Int32) ls  (lv_sub hl [1, 2, 3, 4] rfl) (hz.trans ((if_pos c_8).trans (rfl)))
    · refine lv_iconst (v := (1 : Int32)) hx hb dX3_whole_41 (by decide) ?_
      refine lv_goto (tgt := 46) hx hb dX3_whole_42 (by decide) ?_
      exact K_46 ee mm (1 : Int32) ls  (lv_sub hl [1, 2, 3, 4] rfl) (hz.trans ((if_neg c_8).trans (rfl)))
  have hl := lv_entry ([.long x1, .long x2, .long x3]) (n := 13) (Nat.le_of_ble_eq_true rfl)
  rw [lg_entry_eq]
  generalize (lg_sl ([.long x1, .long x2, .long x3]) ++ List.replicate (13 - (lg_sl ([.long x1, .long x2, .long x3])).length) Slot.unset).toArray = ls at hl ⊢
  have hl : lv_has ls 13 [(0, .long x1), (2, .long x2), (4, .long x3)] := hl
  refine lv_lload_n hx hb dX3_whole_0 rfl (lv_at hl 0 rfl) ?_
  refine lv_bipush (v := (52 : Int32)) hx hb dX3_whole_1 (by decide) ?_
  refine lv_lushr hx hb dX3_whole_3 rfl ?_
  refine lv_l2i hx hb dX3_whole_4 rfl ?_
  refine lv_sipush (v := (2047 : Int32)) hx hb dX3_whole_5 (by decide) ?_
  refine lv_iand hx hb dX3_whole_8 ?_
  refine lv_topi (fun z_9 ez_9 => ?_)
  refine lv_istore (lv' := [(6, .int z_9), (0, .long x1), (2, .long x2), (4, .long x3)]) hx hb dX3_whole_9 hl (by decide) rfl (fun ls hl => ?_)
  refine lv_lload_n hx hb dX3_whole_11 rfl (lv_at hl 1 rfl) ?_
  refine lv_ldc2 (v := (4503599627370495 : Int64)) hx hb hown (hts (.constantLong RX3 124 (4503599627370495)) (by decide +kernel)) dX3_whole_12 ?_
  refine lv_land hx hb dX3_whole_15 ?_
  refine lv_lstore (lv' := [(7, .long (x1 &&& (4503599627370495 : Int64))), (6, .int z_9), (0, .long x1), (2, .long x2), (4, .long x3)]) hx hb dX3_whole_16 hl (by decide) rfl (fun ls hl => ?_)
  refine lv_iload hx hb dX3_whole_18 (lv_at hl 1 rfl) ?_
  refine lv_sipush (v := (2047 : Int32)) hx hb dX3_whole_20 (by decide) ?_
  refine lv_icmp_ne (tgt := 35) hx hb dX3_whole_23 (by decide) (fun c_10 => ?_) (fun c_10 => ?_)
  · exact K_35 z_9 (x1 &&& (4503599627370495 : Int64)) ls  (lv_sub hl [2, 3, 4, 1, 0] rfl) ((congrArg (f_X3_whole_z_9 x1 x2 x3) (Eq.symm ez_9)).trans ((if_neg c_10).trans (rfl)))
  · refine lv_lload hx hb dX3_whole_26 (lv_at hl 0 rfl) ?_
    refine lv_lconst (v := (0 : Int64)) hx hb dX3_whole_28 (by decide) ?_
    refine mb_lc_eq (tgt := 35) hx hb dX3_whole_29 dX3_whole_30 (by decide) (fun c_11 => ?_) (fun c_11 => ?_)
    · exact K_35 z_9 (x1 &&& (4503599627370495 : Int64)) ls  (lv_sub hl [2, 3, 4, 1, 0] rfl) ((congrArg (f_X3_whole_z_9 x1 x2 x3) (Eq.symm ez_9)).trans ((if_pos c_10).trans ((if_pos c_11).trans (rfl))))
    · refine lv_lconst (v := (0 : Int64)) hx hb dX3_whole_33 (by decide) ?_
      exact W.lret (v := (0 : Int64)) hx hb hr (fun t ht hW => ⟨(0 : Int64), rfl, Eq.symm ((congrArg (f_X3_whole_z_9 x1 x2 x3) (Eq.symm ez_9)).trans ((if_pos c_10).trans ((if_neg c_11).trans (rfl)))), ht⟩) (fun q h => by cases h) dX3_whole_34
def f_X3_narrow_191 (x1 : Int64) (sg : Int64) (al : Int64) : Int64 := if al < (2139095040 : Int64) then (sg ||| al)
  else (sg ||| (2139095040 : Int64))
def f_X3_narrow_167 (x1 : Int64) (sg : Int64) (mm : Int64) (bb : Int32) : Int64 := if (-126 : Int32) ≤ bb then f_X3_narrow_191 x1 sg ((((bb + (126 : Int32)).toInt64) <<< ((23 : Int32).toInt64 &&& 63)) + mm)
  else f_X3_narrow_191 x1 sg mm
def f_X3_narrow_z_6 (x1 : Int64) (sg : Int64) (mm : Int64) (bb : Int32) (ct : Int32) (z_4 : Int64) (z_5 : Int64) (z_6 : Int64) : Int64 := if z_5 < z_4 then f_X3_narrow_167 x1 sg (z_6 + (1 : Int64)) bb
  else if z_4 = z_5 then (if (z_6 &&& (1 : Int64)) = (1 : Int64) then f_X3_narrow_167 x1 sg (z_6 + (1 : Int64)) bb
    else f_X3_narrow_167 x1 sg z_6 bb)
  else f_X3_narrow_167 x1 sg z_6 bb
def f_X3_narrow_z_5 (x1 : Int64) (sg : Int64) (mm : Int64) (bb : Int32) (ct : Int32) (z_4 : Int64) (z_5 : Int64) : Int64 := f_X3_narrow_z_6 x1 sg mm bb ct z_4 z_5 ((mm.toUInt64 >>> (ct.toInt64.toUInt64 &&& Int64.toUInt64 63)).toInt64)
def f_X3_narrow_z_4 (x1 : Int64) (sg : Int64) (mm : Int64) (bb : Int32) (ct : Int32) (z_4 : Int64) : Int64 := f_X3_narrow_z_5 x1 sg mm bb ct z_4 ((1 : Int64) <<< ((ct - (1 : Int32)).toInt64 &&& 63))
def f_X3_narrow_99 (x1 : Int64) (sg : Int64) (mm : Int64) (bb : Int32) (ct : Int32) : Int64 := if ct ≤ (54 : Int32) then f_X3_narrow_z_4 x1 sg mm bb ct (mm &&& (((1 : Int64) <<< (ct.toInt64 &&& 63)) - (1 : Int64)))
  else sg
def f_X3_narrow_z_13 (x1 : Int64) (sg : Int64) (z_10 : Int32) (z_13 : Int64) : Int64 := if (-126 : Int32) ≤ (z_10 - (1023 : Int32)) then f_X3_narrow_99 x1 sg z_13 (z_10 - (1023 : Int32)) (29 : Int32)
  else f_X3_narrow_99 x1 sg z_13 (z_10 - (1023 : Int32)) ((-97 : Int32) - (z_10 - (1023 : Int32)))
def f_X3_narrow_z_10 (x1 : Int64) (sg : Int64) (z_10 : Int32) : Int64 := if z_10 = (2047 : Int32) then (if (x1 &&& (4503599627370495 : Int64)) = (0 : Int64) then (sg ||| (2139095040 : Int64))
    else (2143289344 : Int64))
  else if z_10 = 0 then sg
  else f_X3_narrow_z_13 x1 sg z_10 ((x1 &&& (4503599627370495 : Int64)) ||| (4503599627370496 : Int64))
def f_X3_narrow_13 (x1 : Int64) (sg : Int64) : Int64 := f_X3_narrow_z_10 x1 sg ((((x1.toUInt64 >>> ((52 : Int32).toInt64.toUInt64 &&& Int64.toUInt64 63)).toInt64).toInt32) &&& (2047 : Int32))
def f_X3_narrow (x1 : Int64) : Int64 := if (0 : Int64) ≤ x1 then f_X3_narrow_13 x1 (0 : Int64)
  else f_X3_narrow_13 x1 (-2147483648 : Int64)
set_option maxHeartbeats 4000000 in
set_option maxRecDepth 100000 in
theorem c_X3_narrow (l : Launch) (x1 : Int64) : Met l yX3_narrow wsX3_narrow ({ frames := 0, cells := 0, slots := 0, locals := 0 }) (va_Pc [.long x1] (fun _ => True)) (vp_Sl (fun r => r = f_X3_narrow x1)) 0 0 (fun _ => False) := by
  refine Met.ofW (cc := cX3_narrow) (maxL := 15) (ret := (some .long)) (by decide) rfl ?_
  intro p e s m args below meth c s₁ B hml hv
  obtain ⟨rfl, -⟩ := hv
  have hx := B.exec
  have hb := B.bytes
  have hr := B.returns
  have hts := atoms_spec (ws := wsX3_narrow) B.pre
  have hown : s.vm.findClass RX3 = some m.cls := findClass_of_methodNamed B.named
  have hlocks := B.notSynchronized
  have K_191 : ∀ (sg : Int64) (al : Int64) (ls : Array Slot) , lv_has ls 15 [(2, .long sg)] → f_X3_narrow x1 = f_X3_narrow_191 x1 sg al → W p l e (headSpec wsX3_narrow ({ frames := 0, cells := 0, slots := 0, locals := 0 })).room s m ([.long x1] : List Value).toArray below meth c s.heap [] 0 0 (MQ below (vp_Sl (fun r => r = f_X3_narrow x1)) ([.long x1] : List Value).toArray s 0 0 (fun _ => False)) (F0 m 191 ls [.long al]) := by
    intro sg al ls  hl hz
    refine lv_lstore (lv' := [(13, .long al), (2, .long sg)]) hx hb dX3_narrow_191 hl (by decide) rfl (fun ls hl => ?_)
    refine lv_lload_n hx hb dX3_narrow_193 rfl (lv_at hl 1 rfl) ?_
    refine lv_lload hx hb dX3_narrow_194 (lv_at hl 0 rfl) ?_
    refine lv_ldc2 (v := (2139095040 : Int64)) hx hb hown (hts (.constantLong RX3 108 (2139095040)) (by decide +kernel)) dX3_narrow_196 ?_
    refine mb_lc_lt (tgt := 209) hx hb dX3_narrow_199 dX3_narrow_200 (by decide) (fun c_1 => ?_) (fun c_1 => ?_)
    · refine lv_lload hx hb dX3_narrow_209 (lv_at hl 0 rfl) ?_
      refine lv_lor hx hb dX3_narrow_211 ?_
      exact W.lret (v := (sg ||| al)) hx hb hr (fun t ht hW => ⟨(sg ||| al), rfl, Eq.symm (hz.trans ((if_pos c_1).trans (rfl))), ht⟩) (fun q h => by cases h) dX3_narrow_212
    · refine lv_ldc2 (v := (2139095040 : Int64)) hx hb hown (hts (.constantLong RX3 108 (2139095040)) (by decide +kernel)) dX3_narrow_203 ?_
      refine lv_goto (tgt := 211) hx hb dX3_narrow_206 (by decide) ?_
      refine lv_lor hx hb dX3_narrow_211 ?_
      exact W.lret (v := (sg ||| (2139095040 : Int64))) hx hb hr (fun t ht hW => ⟨(sg ||| (2139095040 : Int64)), rfl, Eq.symm (hz.trans ((if_neg c_1).trans (rfl))), ht⟩) (fun q h => by cases h) dX3_narrow_212
  have K_167 : ∀ (sg : Int64) (mm : Int64) (bb : Int32) (ls : Array Slot) , lv_has ls 15 [(2, .long sg), (5, .long mm), (7, .int bb)] → f_X3_narrow x1 = f_X3_narrow_167 x1 sg mm bb → W p l e (headSpec wsX3_narrow ({ frames := 0, cells := 0, slots := 0, locals := 0 })).room s m ([.long x1] : List Value).toArray below meth c s.heap [] 0 0 (MQ below (vp_Sl (fun r => r = f_X3_narrow x1)) ([.long x1] : List Value).toArray s 0 0 (fun _ => False)) (F0 m 167 ls []) := by
    intro sg mm bb ls  hl hz
    refine lv_iload hx hb dX3_narrow_167 (lv_at hl 2 rfl) ?_
    refine lv_bipush (v := (-126 : Int32)) hx hb dX3_narrow_169 (by decide) ?_
    refine lv_icmp_ge (tgt := 179) hx hb dX3_narrow_171 (by decide) (fun c_2 => ?_) (fun c_2 => ?_)
    · refine lv_iload hx hb dX3_narrow_179 (lv_at hl 2 rfl) ?_
      refine lv_bipush (v := (126 : Int32)) hx hb dX3_narrow_181 (by decide) ?_
      refine lv_iadd hx hb dX3_narrow_183 ?_
      refine lv_i2l hx hb dX3_narrow_184 rfl ?_
      refine lv_bipush (v := (23 : Int32)) hx hb dX3_narrow_185 (by decide) ?_
      refine lv_lshl hx hb dX3_narrow_187 rfl ?_
      refine lv_lload hx hb dX3_narrow_188 (lv_at hl 1 rfl) ?_
      refine lv_ladd hx hb dX3_narrow_190 ?_
      exact K_191 sg ((((bb + (126 : Int32)).toInt64) <<< ((23 : Int32).toInt64 &&& 63)) + mm) ls  (lv_sub hl [0] rfl) (hz.trans ((if_pos c_2).trans (rfl)))
    · refine lv_lload hx hb dX3_narrow_174 (lv_at hl 1 rfl) ?_
      refine lv_goto (tgt := 191) hx hb dX3_narrow_176 (by decide) ?_
      exact K_191 sg mm ls  (lv_sub hl [0] rfl) (hz.trans ((if_neg c_2).trans (rfl)))
  have K_99 : ∀ (sg : Int64) (mm : Int64) (bb : Int32) (ct : Int32) (ls : Array Slot) , lv_has ls 15 [(2, .long sg), (5, .long mm), (7, .int bb)] → f_X3_narrow x1 = f_X3_narrow_99 x1 sg mm bb ct → W p l e (headSpec wsX3_narrow ({ frames := 0, cells := 0, slots := 0, locals := 0 })).room s m ([.long x1] : List Value).toArray below meth c s.heap [] 0 0 (MQ below (vp_Sl (fun r => r = f_X3_narrow x1)) ([.long x1] : List Value).toArray s 0 0 (fun _ => False)) (F0 m 99 ls [.int ct]) := by
    intro sg mm bb ct ls  hl hz
    refine lv_istore (lv' := [(8, .int ct), (2, .long sg), (5, .long mm), (7, .int bb)]) hx hb dX3_narrow_99 hl (by decide) rfl (fun ls hl => ?_)
    refine lv_iload hx hb dX3_narrow_101 (lv_at hl 0 rfl) ?_
    refine lv_bipush (v := (54 : Int32)) hx hb dX3_narrow_103 (by decide) ?_
    refine lv_icmp_le (tgt := 110) hx hb dX3_narrow_105 (by decide) (fun c_3 => ?_) (fun c_3 => ?_)
    · refine lv_lload hx hb dX3_narrow_110 (lv_at hl 2 rfl) ?_
      refine lv_lconst (v := (1 : Int64)) hx hb dX3_narrow_112 (by decide) ?_
      refine lv_iload hx hb dX3_narrow_113 (lv_at hl 0 rfl) ?_
      refine lv_lshl hx hb dX3_narrow_115 rfl ?_
      refine lv_lconst (v := (1 : Int64)) hx hb dX3_narrow_116 (by decide) ?_
      refine lv_lsub hx hb dX3_narrow_117 ?_
      refine lv_land hx hb dX3_narrow_118 ?_
      refine lv_topl (fun z_4 ez_4 => ?_)
      refine lv_lstore (lv' := [(9, .long z_4), (8, .int ct), (2, .long sg), (5, .long mm), (7, .int bb)]) hx hb dX3_narrow_119 hl (by decide) rfl (fun ls hl => ?_)
      refine lv_lconst (v := (1 : Int64)) hx hb dX3_narrow_121 (by decide) ?_
      refine lv_iload hx hb dX3_narrow_122 (lv_at hl 1 rfl) ?_
      refine lv_iconst (v := (1 : Int32)) hx hb dX3_narrow_124 (by decide) ?_
      refine lv_isub hx hb dX3_narrow_125 ?_
      refine lv_lshl hx hb dX3_narrow_126 rfl ?_
      refine lv_topl (fun z_5 ez_5 => ?_)
      refine lv_lstore (lv' := [(11, .long z_5), (9, .long z_4), (8, .int ct), (2, .long sg), (5, .long mm), (7, .int bb)]) hx hb dX3_narrow_127 hl (by decide) rfl (fun ls hl => ?_)
      refine lv_lload hx hb dX3_narrow_129 (lv_at hl 4 rfl) ?_
      refine lv_iload hx hb dX3_narrow_131 (lv_at hl 2 rfl) ?_
      refine lv_lushr hx hb dX3_narrow_133 rfl ?_
      refine lv_topl (fun z_6 ez_6 => ?_)
      refine lv_lstore (lv' := [(5, .long z_6), (11, .long z_5), (9, .long z_4), (8, .int ct), (2, .long sg), (7, .int bb)]) hx hb dX3_narrow_134 hl (by decide) rfl (fun ls hl => ?_)
      refine lv_lload hx hb dX3_narrow_136 (lv_at hl 2 rfl) ?_
      refine lv_lload hx hb dX3_narrow_138 (lv_at hl 1 rfl) ?_
      refine mb_lc_gt (tgt := 161) hx hb dX3_narrow_140 dX3_narrow_141 (by decide) (fun c_7 => ?_) (fun c_7 => ?_)
      · refine lv_lload hx hb dX3_narrow_161 (lv_at hl 0 rfl) ?_
        refine lv_lconst (v := (1 : Int64)) hx hb dX3_narrow_163 (by decide) ?_
        refine lv_ladd hx hb dX3_narrow_164 ?_
        refine lv_lstore (lv' := [(5, .long (z_6 + (1 : Int64))), (11, .long z_5), (9, .long z_4), (8, .int ct), (2, .long sg), (7, .int bb)]) hx hb dX3_narrow_165 hl (by decide) rfl (fun ls hl => ?_)
        exact K_167 sg (z_6 + (1 : Int64)) bb ls  (lv_sub hl [4, 0, 5] rfl) (hz.trans ((if_pos c_3).trans ((congrArg (f_X3_narrow_z_4 x1 sg mm bb ct) (Eq.symm ez_4)).trans ((congrArg (f_X3_narrow_z_5 x1 sg mm bb ct z_4) (Eq.symm ez_5)).trans ((congrArg (f_X3_narrow_z_6 x1 sg mm bb ct z_4 z_5) (Eq.symm ez_6)).trans ((if_pos c_7).trans (rfl)))))))
      · refine lv_lload hx hb dX3_narrow_144 (lv_at hl 2 rfl) ?_
        refine lv_lload hx hb dX3_narrow_146 (lv_at hl 1 rfl) ?_
        refine mb_lc_ne (tgt := 167) hx hb dX3_narrow_148 dX3_narrow_149 (by decide) (fun c_8 => ?_) (fun c_8 => ?_)
        · exact K_167 sg z_6 bb ls  (lv_sub hl [4, 0, 5] rfl) (hz.trans ((if_pos c_3).trans ((congrArg (f_X3_narrow_z_4 x1 sg mm bb ct) (Eq.symm ez_4)).trans ((congrArg (f_X3_narrow_z_5 x1 sg mm bb ct z_4) (Eq.symm ez_5)).trans ((congrArg (f_X3_narrow_z_6 x1 sg mm bb ct z_4 z_5) (Eq.symm ez_6)).trans ((if_neg c_7).trans ((if_neg c_8).trans (rfl))))))))
        · refine lv_lload hx hb dX3_narrow_152 (lv_at hl 0 rfl) ?_
          refine lv_lconst (v := (1 : Int64)) hx hb dX3_narrow_154 (by decide) ?_
          refine lv_land hx hb dX3_narrow_155 ?_
          refine lv_lconst (v := (1 : Int64)) hx hb dX3_narrow_156 (by decide) ?_
          refine mb_lc_ne (tgt := 167) hx hb dX3_narrow_157 dX3_narrow_158 (by decide) (fun c_9 => ?_) (fun c_9 => ?_)
          · exact K_167 sg z_6 bb ls  (lv_sub hl [4, 0, 5] rfl) (hz.trans ((if_pos c_3).trans ((congrArg (f_X3_narrow_z_4 x1 sg mm bb ct) (Eq.symm ez_4)).trans ((congrArg (f_X3_narrow_z_5 x1 sg mm bb ct z_4) (Eq.symm ez_5)).trans ((congrArg (f_X3_narrow_z_6 x1 sg mm bb ct z_4 z_5) (Eq.symm ez_6)).trans ((if_neg c_7).trans ((if_pos c_8).trans ((if_neg c_9).trans (rfl)))))))))
          · refine lv_lload hx hb dX3_narrow_161 (lv_at hl 0 rfl) ?_
            refine lv_lconst (v := (1 : Int64)) hx hb dX3_narrow_163 (by decide) ?_
            refine lv_ladd hx hb dX3_narrow_164 ?_
            refine lv_lstore (lv' := [(5, .long (z_6 + (1 : Int64))), (11, .long z_5), (9, .long z_4), (8, .int ct), (2, .long sg), (7, .int bb)]) hx hb dX3_narrow_165 hl (by decide) rfl (fun ls hl => ?_)
            exact K_167 sg (z_6 + (1 : Int64)) bb ls  (lv_sub hl [4, 0, 5] rfl) (hz.trans ((if_pos c_3).trans ((congrArg (f_X3_narrow_z_4 x1 sg mm bb ct) (Eq.symm ez_4)).trans ((congrArg (f_X3_narrow_z_5 x1 sg mm bb ct z_4) (Eq.symm ez_5)).trans ((congrArg (f_X3_narrow_z_6 x1 sg mm bb ct z_4 z_5) (Eq.symm ez_6)).trans ((if_neg c_7).trans ((if_pos c_8).trans ((if_pos c_9).trans (rfl)))))))))
    · refine lv_lload_n hx hb dX3_narrow_108 rfl (lv_at hl 1 rfl) ?_
      exact W.lret (v := sg) hx hb hr (fun t ht hW => ⟨sg, rfl, Eq.symm (hz.trans ((if_neg c_3).trans (rfl))), ht⟩) (fun q h => by cases h) dX3_narrow_109
  have K_13 : ∀ (sg : Int64) (ls : Array Slot) , lv_has ls 15 [(0, .long x1)] → f_X3_narrow x1 = f_X3_narrow_13 x1 sg → W p l e (headSpec wsX3_narrow ({ frames := 0, cells := 0, slots := 0, locals := 0 })).room s m ([.long x1] : List Value).toArray below meth c s.heap [] 0 0 (MQ below (vp_Sl (fun r => r = f_X3_narrow x1)) ([.long x1] : List Value).toArray s 0 0 (fun _ => False)) (F0 m 13 ls [.long sg]) := by
    intro sg ls  hl hz
    refine lv_lstore_n (lv' := [(2, .long sg), (0, .long x1)]) hx hb dX3_narrow_13 rfl hl (by decide) rfl (fun ls hl => ?_)
    refine lv_lload_n hx hb dX3_narrow_14 rfl (lv_at hl 1 rfl) ?_
    refine lv_bipush (v := (52 : Int32)) hx hb dX3_narrow_15 (by decide) ?_
    refine lv_lushr hx hb dX3_narrow_17 rfl ?_
    refine lv_l2i hx hb dX3_narrow_18 rfl ?_
    refine lv_sipush (v := (2047 : Int32)) hx hb dX3_narrow_19 (by decide) ?_
    refine lv_iand hx hb dX3_narrow_22 ?_
    refine lv_topi (fun z_10 ez_10 => ?_)
    refine lv_istore (lv' := [(4, .int z_10), (2, .long sg), (0, .long x1)]) hx hb dX3_narrow_23 hl (by decide) rfl (fun ls hl => ?_)
    refine lv_lload_n hx hb dX3_narrow_25 rfl (lv_at hl 2 rfl) ?_
    refine lv_ldc2 (v := (4503599627370495 : Int64)) hx hb hown (hts (.constantLong RX3 124 (4503599627370495)) (by decide +kernel)) dX3_narrow_26 ?_
    refine lv_land hx hb dX3_narrow_29 ?_
    refine lv_lstore (lv' := [(5, .long (x1 &&& (4503599627370495 : Int64))), (4, .int z_10), (2, .long sg), (0, .long x1)]) hx hb dX3_narrow_30 hl (by decide) rfl (fun ls hl => ?_)
    refine lv_iload hx hb dX3_narrow_32 (lv_at hl 1 rfl) ?_
    refine lv_sipush (v := (2047 : Int32)) hx hb dX3_narrow_34 (by decide) ?_
    refine lv_icmp_ne (tgt := 59) hx hb dX3_narrow_37 (by decide) (fun c_11 => ?_) (fun c_11 => ?_)
    · refine lv_iload hx hb dX3_narrow_59 (lv_at hl 1 rfl) ?_
      refine lv_if_ne (tgt := 66) hx hb dX3_narrow_61 (by decide) (fun c_12 => ?_) (fun c_12 => ?_)
      · refine lv_lload hx hb dX3_narrow_66 (lv_at hl 0 rfl) ?_
        refine lv_ldc2 (v := (4503599627370496 : Int64)) hx hb hown (hts (.constantLong RX3 126 (4503599627370496)) (by decide +kernel)) dX3_narrow_68 ?_
        refine lv_lor hx hb dX3_narrow_71 ?_
        refine lv_topl (fun z_13 ez_13 => ?_)
        refine lv_lstore (lv' := [(5, .long z_13), (4, .int z_10), (2, .long sg), (0, .long x1)]) hx hb dX3_narrow_72 hl (by decide) rfl (fun ls hl => ?_)
        refine lv_iload hx hb dX3_narrow_74 (lv_at hl 1 rfl) ?_
        refine lv_sipush (v := (1023 : Int32)) hx hb dX3_narrow_76 (by decide) ?_
        refine lv_isub hx hb dX3_narrow_79 ?_
        refine lv_istore (lv' := [(7, .int (z_10 - (1023 : Int32))), (5, .long z_13), (4, .int z_10), (2, .long sg), (0, .long x1)]) hx hb dX3_narrow_80 hl (by decide) rfl (fun ls hl => ?_)
        refine lv_iload hx hb dX3_narrow_82 (lv_at hl 0 rfl) ?_
        refine lv_bipush (v := (-126 : Int32)) hx hb dX3_narrow_84 (by decide) ?_
        refine lv_icmp_ge (tgt := 97) hx hb dX3_narrow_86 (by decide) (fun c_14 => ?_) (fun c_14 => ?_)
        · refine lv_bipush (v := (29 : Int32)) hx hb dX3_narrow_97 (by decide) ?_
          exact K_99 sg z_13 (z_10 - (1023 : Int32)) (29 : Int32) ls  (lv_sub hl [3, 1, 0] rfl) (hz.trans ((congrArg (f_X3_narrow_z_10 x1 sg) (Eq.symm ez_10)).trans ((if_neg c_11).trans ((if_neg c_12).trans ((congrArg (f_X3_narrow_z_13 x1 sg z_10) (Eq.symm ez_13)).trans ((if_pos c_14).trans (rfl)))))))
        · refine lv_bipush (v := (-97 : Int32)) hx hb dX3_narrow_89 (by decide) ?_
          refine lv_iload hx hb dX3_narrow_91 (lv_at hl 0 rfl) ?_
          refine lv_isub hx hb dX3_narrow_93 ?_
          refine lv_goto (tgt := 99) hx hb dX3_narrow_94 (by decide) ?_
          exact K_99 sg z_13 (z_10 - (1023 : Int32)) ((-97 : Int32) - (z_10 - (1023 : Int32))) ls  (lv_sub hl [3, 1, 0] rfl) (hz.trans ((congrArg (f_X3_narrow_z_10 x1 sg) (Eq.symm ez_10)).trans ((if_neg c_11).trans ((if_neg c_12).trans ((congrArg (f_X3_narrow_z_13 x1 sg z_10) (Eq.symm ez_13)).trans ((if_neg c_14).trans (rfl)))))))
      · refine lv_lload_n hx hb dX3_narrow_64 rfl (lv_at hl 2 rfl) ?_
        exact W.lret (v := sg) hx hb hr (fun t ht hW => ⟨sg, rfl, Eq.symm (hz.trans ((congrArg (f_X3_narrow_z_10 x1 sg) (Eq.symm ez_10)).trans ((if_neg c_11).trans ((if_pos c_12).trans (rfl))))), ht⟩) (fun q h => by cases h) dX3_narrow_65
    · refine lv_lload hx hb dX3_narrow_40 (lv_at hl 0 rfl) ?_
      refine lv_lconst (v := (0 : Int64)) hx hb dX3_narrow_42 (by decide) ?_
      refine mb_lc_ne (tgt := 55) hx hb dX3_narrow_43 dX3_narrow_44 (by decide) (fun c_15 => ?_) (fun c_15 => ?_)
      · refine lv_ldc2 (v := (2143289344 : Int64)) hx hb hown (hts (.constantLong RX3 110 (2143289344)) (by decide +kernel)) dX3_narrow_55 ?_
        exact W.lret (v := (2143289344 : Int64)) hx hb hr (fun t ht hW => ⟨(2143289344 : Int64), rfl, Eq.symm (hz.trans ((congrArg (f_X3_narrow_z_10 x1 sg) (Eq.symm ez_10)).trans ((if_pos c_11).trans ((if_neg c_15).trans (rfl))))), ht⟩) (fun q h => by cases h) dX3_narrow_58
      · refine lv_lload_n hx hb dX3_narrow_47 rfl (lv_at hl 2 rfl) ?_
        refine lv_ldc2 (v := (2139095040 : Int64)) hx hb hown (hts (.constantLong RX3 108 (2139095040)) (by decide +kernel)) dX3_narrow_48 ?_
        refine lv_lor hx hb dX3_narrow_51 ?_
        refine lv_goto (tgt := 58) hx hb dX3_narrow_52 (by decide) ?_
        exact W.lret (v := (sg ||| (2139095040 : Int64))) hx hb hr (fun t ht hW => ⟨(sg ||| (2139095040 : Int64)), rfl, Eq.symm (hz.trans ((congrArg (f_X3_narrow_z_10 x1 sg) (Eq.symm ez_10)).trans ((if_pos c_11).trans ((if_pos c_15).trans (rfl))))), ht⟩) (fun q h => by cases h) dX3_narrow_58
  have hl := lv_entry ([.long x1]) (n := 15) (Nat.le_of_ble_eq_true rfl)
  rw [lg_entry_eq]
  generalize (lg_sl ([.long x1]) ++ List.replicate (15 - (lg_sl ([.long x1])).length) Slot.unset).toArray = ls at hl ⊢
  have hl : lv_has ls 15 [(0, .long x1)] := hl
  refine lv_lload_n hx hb dX3_narrow_0 rfl (lv_at hl 0 rfl) ?_
  refine lv_lconst (v := (0 : Int64)) hx hb dX3_narrow_1 (by decide) ?_
  refine mb_lc_ge (tgt := 12) hx hb dX3_narrow_2 dX3_narrow_3 (by decide) (fun c_16 => ?_) (fun c_16 => ?_)
  · refine lv_lconst (v := (0 : Int64)) hx hb dX3_narrow_12 (by decide) ?_
    exact K_13 (0 : Int64) ls  (lv_sub hl [0] rfl) ((if_pos c_16).trans (rfl))
  · refine lv_ldc2 (v := (-2147483648 : Int64)) hx hb hown (hts (.constantLong RX3 100 (-2147483648)) (by decide +kernel)) dX3_narrow_6 ?_
    refine lv_goto (tgt := 13) hx hb dX3_narrow_9 (by decide) ?_
    exact K_13 (-2147483648 : Int64) ls  (lv_sub hl [0] rfl) ((if_neg c_16).trans (rfl))
def f_J6_numberOfLeadingZeros_0f7a4_73 (x1 : Int32) (v : Int32) (n : Int32) : Int32 := (n - ((v.toUInt32 >>> ((1 : Int32).toUInt32 &&& Int32.toUInt32 31)).toInt32))
def f_J6_numberOfLeadingZeros_0f7a4_z_2 (x1 : Int32) (v : Int32) (n : Int32) (z_2 : Int32) : Int32 := f_J6_numberOfLeadingZeros_0f7a4_73 x1 z_2 (n + (-2 : Int32))
def f_J6_numberOfLeadingZeros_0f7a4_61 (x1 : Int32) (v : Int32) (n : Int32) : Int32 := if v < (4 : Int32) then f_J6_numberOfLeadingZeros_0f7a4_73 x1 v n
  else f_J6_numberOfLeadingZeros_0f7a4_z_2 x1 v n ((v.toUInt32 >>> ((2 : Int32).toUInt32 &&& Int32.toUInt32 31)).toInt32)
def f_J6_numberOfLeadingZeros_0f7a4_z_4 (x1 : Int32) (v : Int32) (n : Int32) (z_4 : Int32) : Int32 := f_J6_numberOfLeadingZeros_0f7a4_61 x1 z_4 (n + (-4 : Int32))
def f_J6_numberOfLeadingZeros_0f7a4_48 (x1 : Int32) (v : Int32) (n : Int32) : Int32 := if v < (16 : Int32) then f_J6_numberOfLeadingZeros_0f7a4_61 x1 v n
  else f_J6_numberOfLeadingZeros_0f7a4_z_4 x1 v n ((v.toUInt32 >>> ((4 : Int32).toUInt32 &&& Int32.toUInt32 31)).toInt32)
def f_J6_numberOfLeadingZeros_0f7a4_z_6 (x1 : Int32) (v : Int32) (n : Int32) (z_6 : Int32) : Int32 := f_J6_numberOfLeadingZeros_0f7a4_48 x1 z_6 (n + (-8 : Int32))
def f_J6_numberOfLeadingZeros_0f7a4_33 (x1 : Int32) (v : Int32) (n : Int32) : Int32 := if v < (256 : Int32) then f_J6_numberOfLeadingZeros_0f7a4_48 x1 v n
  else f_J6_numberOfLeadingZeros_0f7a4_z_6 x1 v n ((v.toUInt32 >>> ((8 : Int32).toUInt32 &&& Int32.toUInt32 31)).toInt32)
def f_J6_numberOfLeadingZeros_0f7a4_z_9 (x1 : Int32) (z_9 : Int32) : Int32 := f_J6_numberOfLeadingZeros_0f7a4_33 x1 z_9 ((31 : Int32) + (-16 : Int32))
def f_J6_numberOfLeadingZeros_0f7a4 (x1 : Int32) : Int32 := if 0 < x1 then (if x1 < (65536 : Int32) then f_J6_numberOfLeadingZeros_0f7a4_33 x1 x1 (31 : Int32)
    else f_J6_numberOfLeadingZeros_0f7a4_z_9 x1 ((x1.toUInt32 >>> ((16 : Int32).toUInt32 &&& Int32.toUInt32 31)).toInt32))
  else if x1 = 0 then (32 : Int32)
  else (0 : Int32)
set_option maxHeartbeats 4000000 in
set_option maxRecDepth 100000 in
theorem c_J6_numberOfLeadingZeros_0f7a4 (l : Launch) (x1 : Int32) : Met l yJ6_numberOfLeadingZeros_0f7a4 wsJ6_numberOfLeadingZeros_0f7a4 ({ frames := 0, cells := 0, slots := 0, locals := 0 }) (va_Pc [.int x1] (fun _ => True)) (vp_Si (fun r => r = f_J6_numberOfLeadingZeros_0f7a4 x1)) 0 0 (fun _ => False) := by
  refine Met.ofW (cc := cJ6_numberOfLeadingZeros_0f7a4) (maxL := 2) (ret := (some .int)) (by decide) rfl ?_
  intro p e s m args below meth c s₁ B hml hv
  obtain ⟨rfl, -⟩ := hv
  have hx := B.exec
  have hb := B.bytes
  have hr := B.returns
  have hts := atoms_spec (ws := wsJ6_numberOfLeadingZeros_0f7a4) B.pre
  have hown : s.vm.findClass RJ6 = some m.cls := findClass_of_methodNamed B.named
  have hlocks := B.notSynchronized
  have K_73 : ∀ (v : Int32) (n : Int32) (ls : Array Slot) , lv_has ls 2 [(0, .int v), (1, .int n)] → f_J6_numberOfLeadingZeros_0f7a4 x1 = f_J6_numberOfLeadingZeros_0f7a4_73 x1 v n → W p l e (headSpec wsJ6_numberOfLeadingZeros_0f7a4 ({ frames := 0, cells := 0, slots := 0, locals := 0 })).room s m ([.int x1] : List Value).toArray below meth c s.heap [] 0 0 (MQ below (vp_Si (fun r => r = f_J6_numberOfLeadingZeros_0f7a4 x1)) ([.int x1] : List Value).toArray s 0 0 (fun _ => False)) (F0 m 73 ls []) := by
    intro v n ls  hl hz
    refine lv_iload_n hx hb dJ6_numberOfLeadingZeros_0f7a4_73 rfl (lv_at hl 1 rfl) ?_
    refine lv_iload_n hx hb dJ6_numberOfLeadingZeros_0f7a4_74 rfl (lv_at hl 0 rfl) ?_
    refine lv_iconst (v := (1 : Int32)) hx hb dJ6_numberOfLeadingZeros_0f7a4_75 (by decide) ?_
    refine lv_iushr hx hb dJ6_numberOfLeadingZeros_0f7a4_76 rfl ?_
    refine lv_isub hx hb dJ6_numberOfLeadingZeros_0f7a4_77 ?_
    exact W.iret (v := (n - ((v.toUInt32 >>> ((1 : Int32).toUInt32 &&& Int32.toUInt32 31)).toInt32))) hx hb hr (fun t ht hW => ⟨(n - ((v.toUInt32 >>> ((1 : Int32).toUInt32 &&& Int32.toUInt32 31)).toInt32)), rfl, Eq.symm (hz.trans (rfl)), ht⟩) (fun q h => by cases h) dJ6_numberOfLeadingZeros_0f7a4_78
  have K_61 : ∀ (v : Int32) (n : Int32) (ls : Array Slot) , lv_has ls 2 [(0, .int v), (1, .int n)] → f_J6_numberOfLeadingZeros_0f7a4 x1 = f_J6_numberOfLeadingZeros_0f7a4_61 x1 v n → W p l e (headSpec wsJ6_numberOfLeadingZeros_0f7a4 ({ frames := 0, cells := 0, slots := 0, locals := 0 })).room s m ([.int x1] : List Value).toArray below meth c s.heap [] 0 0 (MQ below (vp_Si (fun r => r = f_J6_numberOfLeadingZeros_0f7a4 x1)) ([.int x1] : List Value).toArray s 0 0 (fun _ => False)) (F0 m 61 ls []) := by
    intro v n ls  hl hz
    refine lv_iload_n hx hb dJ6_numberOfLeadingZeros_0f7a4_61 rfl (lv_at hl 0 rfl) ?_
    refine lv_iconst (v := (4 : Int32)) hx hb dJ6_numberOfLeadingZeros_0f7a4_62 (by decide) ?_
    refine lv_icmp_lt (tgt := 73) hx hb dJ6_numberOfLeadingZeros_0f7a4_63 (by decide) (fun c_1 => ?_) (fun c_1 => ?_)
    · exact K_73 v n ls  (lv_sub hl [0, 1] rfl) (hz.trans ((if_pos c_1).trans (rfl)))
    · refine lv_iinc (v := (n + (-2 : Int32))) (lv' := [(1, .int (n + (-2 : Int32))), (0, .int v)]) hx hb dJ6_numberOfLeadingZeros_0f7a4_66 hl (k := 1) rfl rfl (by decide) rfl (fun ls hl => ?_)
      refine lv_iload_n hx hb dJ6_numberOfLeadingZeros_0f7a4_69 rfl (lv_at hl 1 rfl) ?_
      refine lv_iconst (v := (2 : Int32)) hx hb dJ6_numberOfLeadingZeros_0f7a4_70 (by decide) ?_
      refine lv_iushr hx hb dJ6_numberOfLeadingZeros_0f7a4_71 rfl ?_
      refine lv_topi (fun z_2 ez_2 => ?_)
      refine lv_istore_n (lv' := [(0, .int z_2), (1, .int (n + (-2 : Int32)))]) hx hb dJ6_numberOfLeadingZeros_0f7a4_72 rfl hl (by decide) rfl (fun ls hl => ?_)
      exact K_73 z_2 (n + (-2 : Int32)) ls  (lv_sub hl [0, 1] rfl) (hz.trans ((if_neg c_1).trans ((congrArg (f_J6_numberOfLeadingZeros_0f7a4_z_2 x1 v n) (Eq.symm ez_2)).trans (rfl))))
  have K_48 : ∀ (v : Int32) (n : Int32) (ls : Array Slot) , lv_has ls 2 [(0, .int v), (1, .int n)] → f_J6_numberOfLeadingZeros_0f7a4 x1 = f_J6_numberOfLeadingZeros_0f7a4_48 x1 v n → W p l e (headSpec wsJ6_numberOfLeadingZeros_0f7a4 ({ frames := 0, cells := 0, slots := 0, locals := 0 })).room s m ([.int x1] : List Value).toArray below meth c s.heap [] 0 0 (MQ below (vp_Si (fun r => r = f_J6_numberOfLeadingZeros_0f7a4 x1)) ([.int x1] : List Value).toArray s 0 0 (fun _ => False)) (F0 m 48 ls []) := by
    intro v n ls  hl hz
    refine lv_iload_n hx hb dJ6_numberOfLeadingZeros_0f7a4_48 rfl (lv_at hl 0 rfl) ?_
    refine lv_bipush (v := (16 : Int32)) hx hb dJ6_numberOfLeadingZeros_0f7a4_49 (by decide) ?_
    refine lv_icmp_lt (tgt := 61) hx hb dJ6_numberOfLeadingZeros_0f7a4_51 (by decide) (fun c_3 => ?_) (fun c_3 => ?_)
    · exact K_61 v n ls  (lv_sub hl [0, 1] rfl) (hz.trans ((if_pos c_3).trans (rfl)))
    · refine lv_iinc (v := (n + (-4 : Int32))) (lv' := [(1, .int (n + (-4 : Int32))), (0, .int v)]) hx hb dJ6_numberOfLeadingZeros_0f7a4_54 hl (k := 1) rfl rfl (by decide) rfl (fun ls hl => ?_)
      refine lv_iload_n hx hb dJ6_numberOfLeadingZeros_0f7a4_57 rfl (lv_at hl 1 rfl) ?_
      refine lv_iconst (v := (4 : Int32)) hx hb dJ6_numberOfLeadingZeros_0f7a4_58 (by decide) ?_
      refine lv_iushr hx hb dJ6_numberOfLeadingZeros_0f7a4_59 rfl ?_
      refine lv_topi (fun z_4 ez_4 => ?_)
      refine lv_istore_n (lv' := [(0, .int z_4), (1, .int (n + (-4 : Int32)))]) hx hb dJ6_numberOfLeadingZeros_0f7a4_60 rfl hl (by decide) rfl (fun ls hl => ?_)
      exact K_61 z_4 (n + (-4 : Int32)) ls  (lv_sub hl [0, 1] rfl) (hz.trans ((if_neg c_3).trans ((congrArg (f_J6_numberOfLeadingZeros_0f7a4_z_4 x1 v n) (Eq.symm ez_4)).trans (rfl))))
  have K_33 : ∀ (v : Int32) (n : Int32) (ls : Array Slot) , lv_has ls 2 [(0, .int v), (1, .int n)] → f_J6_numberOfLeadingZeros_0f7a4 x1 = f_J6_numberOfLeadingZeros_0f7a4_33 x1 v n → W p l e (headSpec wsJ6_numberOfLeadingZeros_0f7a4 ({ frames := 0, cells := 0, slots := 0, locals := 0 })).room s m ([.int x1] : List Value).toArray below meth c s.heap [] 0 0 (MQ below (vp_Si (fun r => r = f_J6_numberOfLeadingZeros_0f7a4 x1)) ([.int x1] : List Value).toArray s 0 0 (fun _ => False)) (F0 m 33 ls []) := by
    intro v n ls  hl hz
    refine lv_iload_n hx hb dJ6_numberOfLeadingZeros_0f7a4_33 rfl (lv_at hl 0 rfl) ?_
    refine lv_sipush (v := (256 : Int32)) hx hb dJ6_numberOfLeadingZeros_0f7a4_34 (by decide) ?_
    refine lv_icmp_lt (tgt := 48) hx hb dJ6_numberOfLeadingZeros_0f7a4_37 (by decide) (fun c_5 => ?_) (fun c_5 => ?_)
    · exact K_48 v n ls  (lv_sub hl [0, 1] rfl) (hz.trans ((if_pos c_5).trans (rfl)))
    · refine lv_iinc (v := (n + (-8 : Int32))) (lv' := [(1, .int (n + (-8 : Int32))), (0, .int v)]) hx hb dJ6_numberOfLeadingZeros_0f7a4_40 hl (k := 1) rfl rfl (by decide) rfl (fun ls hl => ?_)
      refine lv_iload_n hx hb dJ6_numberOfLeadingZeros_0f7a4_43 rfl (lv_at hl 1 rfl) ?_
      refine lv_bipush (v := (8 : Int32)) hx hb dJ6_numberOfLeadingZeros_0f7a4_44 (by decide) ?_
      refine lv_iushr hx hb dJ6_numberOfLeadingZeros_0f7a4_46 rfl ?_
      refine lv_topi (fun z_6 ez_6 => ?_)
      refine lv_istore_n (lv' := [(0, .int z_6), (1, .int (n + (-8 : Int32)))]) hx hb dJ6_numberOfLeadingZeros_0f7a4_47 rfl hl (by decide) rfl (fun ls hl => ?_)
      exact K_48 z_6 (n + (-8 : Int32)) ls  (lv_sub hl [0, 1] rfl) (hz.trans ((if_neg c_5).trans ((congrArg (f_J6_numberOfLeadingZeros_0f7a4_z_6 x1 v n) (Eq.symm ez_6)).trans (rfl))))
  have hl := lv_entry ([.int x1]) (n := 2) (Nat.le_of_ble_eq_true rfl)
  rw [lg_entry_eq]
  generalize (lg_sl ([.int x1]) ++ List.replicate (2 - (lg_sl ([.int x1])).length) Slot.unset).toArray = ls at hl ⊢
  have hl : lv_has ls 2 [(0, .int x1)] := hl
  refine lv_iload_n hx hb dJ6_numberOfLeadingZeros_0f7a4_0 rfl (lv_at hl 0 rfl) ?_
  refine lv_if_gt (tgt := 15) hx hb dJ6_numberOfLeadingZeros_0f7a4_1 (by decide) (fun c_7 => ?_) (fun c_7 => ?_)
  · refine lv_bipush (v := (31 : Int32)) hx hb dJ6_numberOfLeadingZeros_0f7a4_15 (by decide) ?_
    refine lv_istore_n (lv' := [(1, .int (31 : Int32)), (0, .int x1)]) hx hb dJ6_numberOfLeadingZeros_0f7a4_17 rfl hl (by decide) rfl (fun ls hl => ?_)
    refine lv_iload_n hx hb dJ6_numberOfLeadingZeros_0f7a4_18 rfl (lv_at hl 1 rfl) ?_
    refine lv_ldcw (v := (65536 : Int32)) hx hb hown (hts (.constant RJ6 264 (65536)) (by decide +kernel)) dJ6_numberOfLeadingZeros_0f7a4_19 ?_
    refine lv_icmp_lt (tgt := 33) hx hb dJ6_numberOfLeadingZeros_0f7a4_22 (by decide) (fun c_8 => ?_) (fun c_8 => ?_)
    · exact K_33 x1 (31 : Int32) ls  (lv_sub hl [1, 0] rfl) ((if_pos c_7).trans ((if_pos c_8).trans (rfl)))
    · refine lv_iinc (v := ((31 : Int32) + (-16 : Int32))) (lv' := [(1, .int ((31 : Int32) + (-16 : Int32))), (0, .int x1)]) hx hb dJ6_numberOfLeadingZeros_0f7a4_25 hl (k := 0) rfl rfl (by decide) rfl (fun ls hl => ?_)
      refine lv_iload_n hx hb dJ6_numberOfLeadingZeros_0f7a4_28 rfl (lv_at hl 1 rfl) ?_
      refine lv_bipush (v := (16 : Int32)) hx hb dJ6_numberOfLeadingZeros_0f7a4_29 (by decide) ?_
      refine lv_iushr hx hb dJ6_numberOfLeadingZeros_0f7a4_31 rfl ?_
      refine lv_topi (fun z_9 ez_9 => ?_)
      refine lv_istore_n (lv' := [(0, .int z_9), (1, .int ((31 : Int32) + (-16 : Int32)))]) hx hb dJ6_numberOfLeadingZeros_0f7a4_32 rfl hl (by decide) rfl (fun ls hl => ?_)
      exact K_33 z_9 ((31 : Int32) + (-16 : Int32)) ls  (lv_sub hl [0, 1] rfl) ((if_pos c_7).trans ((if_neg c_8).trans ((congrArg (f_J6_numberOfLeadingZeros_0f7a4_z_9 x1) (Eq.symm ez_9)).trans (rfl))))
  · refine lv_iload_n hx hb dJ6_numberOfLeadingZeros_0f7a4_4 rfl (lv_at hl 0 rfl) ?_
    refine lv_if_ne (tgt := 13) hx hb dJ6_numberOfLeadingZeros_0f7a4_5 (by decide) (fun c_10 => ?_) (fun c_10 => ?_)
    · refine lv_iconst (v := (0 : Int32)) hx hb dJ6_numberOfLeadingZeros_0f7a4_13 (by decide) ?_
      exact W.iret (v := (0 : Int32)) hx hb hr (fun t ht hW => ⟨(0 : Int32), rfl, Eq.symm ((if_neg c_7).trans ((if_neg c_10).trans (rfl))), ht⟩) (fun q h => by cases h) dJ6_numberOfLeadingZeros_0f7a4_14
    · refine lv_bipush (v := (32 : Int32)) hx hb dJ6_numberOfLeadingZeros_0f7a4_8 (by decide) ?_
      refine lv_goto (tgt := 14) hx hb dJ6_numberOfLeadingZeros_0f7a4_10 (by decide) ?_
      exact W.iret (v := (32 : Int32)) hx hb hr (fun t ht hW => ⟨(32 : Int32), rfl, Eq.symm ((if_neg c_7).trans ((if_pos c_10).trans (rfl))), ht⟩) (fun q h => by cases h) dJ6_numberOfLeadingZeros_0f7a4_14
def f_J13_numberOfLeadingZeros_95d88_z_1 (x1 : Int64) (z_1 : Int32) : Int32 := if z_1 = 0 then ((32 : Int32) + (f_J6_numberOfLeadingZeros_0f7a4 x1.toInt32))
  else (f_J6_numberOfLeadingZeros_0f7a4 z_1)
def f_J13_numberOfLeadingZeros_95d88 (x1 : Int64) : Int32 := f_J13_numberOfLeadingZeros_95d88_z_1 x1 (((x1.toUInt64 >>> ((32 : Int32).toInt64.toUInt64 &&& Int64.toUInt64 63)).toInt64).toInt32)
set_option maxHeartbeats 4000000 in
set_option maxRecDepth 100000 in
theorem c_J13_numberOfLeadingZeros_95d88 (l : Launch) (x1 : Int64) : Met l yJ13_numberOfLeadingZeros_95d88 wsJ13_numberOfLeadingZeros_95d88 ({ frames := 1, cells := 0, slots := 0, locals := 21 }) (va_Pc [.long x1] (fun _ => True)) (vp_Si (fun r => r = f_J13_numberOfLeadingZeros_95d88 x1)) 0 0 (fun _ => False) := by
  refine Met.ofW (cc := cJ13_numberOfLeadingZeros_95d88) (maxL := 3) (ret := (some .int)) (by decide) rfl ?_
  intro p e s m args below meth c s₁ B hml hv
  obtain ⟨rfl, -⟩ := hv
  have hx := B.exec
  have hb := B.bytes
  have hr := B.returns
  have hts := atoms_spec (ws := wsJ13_numberOfLeadingZeros_95d88) B.pre
  have hown : s.vm.findClass RJ13 = some m.cls := findClass_of_methodNamed B.named
  have hlocks := B.notSynchronized
  have hl := lv_entry ([.long x1]) (n := 3) (Nat.le_of_ble_eq_true rfl)
  rw [lg_entry_eq]
  generalize (lg_sl ([.long x1]) ++ List.replicate (3 - (lg_sl ([.long x1])).length) Slot.unset).toArray = ls at hl ⊢
  have hl : lv_has ls 3 [(0, .long x1)] := hl
  refine lv_lload_n hx hb dJ13_numberOfLeadingZeros_95d88_0 rfl (lv_at hl 0 rfl) ?_
  refine lv_bipush (v := (32 : Int32)) hx hb dJ13_numberOfLeadingZeros_95d88_1 (by decide) ?_
  refine lv_lushr hx hb dJ13_numberOfLeadingZeros_95d88_3 rfl ?_
  refine lv_l2i hx hb dJ13_numberOfLeadingZeros_95d88_4 rfl ?_
  refine lv_topi (fun z_1 ez_1 => ?_)
  refine lv_istore_n (lv' := [(2, .int z_1), (0, .long x1)]) hx hb dJ13_numberOfLeadingZeros_95d88_5 rfl hl (by decide) rfl (fun ls hl => ?_)
  refine lv_iload_n hx hb dJ13_numberOfLeadingZeros_95d88_6 rfl (lv_at hl 0 rfl) ?_
  refine lv_if_ne (tgt := 21) hx hb dJ13_numberOfLeadingZeros_95d88_7 (by decide) (fun c_2 => ?_) (fun c_2 => ?_)
  · refine lv_iload_n hx hb dJ13_numberOfLeadingZeros_95d88_21 rfl (lv_at hl 0 rfl) ?_
    refine mb_callSi (W.runS (As := [.int z_1]) (rest := []) ⟨hx, hb, hml, hown, hts⟩ (c_J6_numberOfLeadingZeros_0f7a4 l z_1) (va_cwS 1 hts gJ13_numberOfLeadingZeros_95d88_J6_numberOfLeadingZeros_0f7a4 rfl rfl rfl (by decide +kernel) ⟨Nat.le_of_ble_eq_true rfl, Nat.le_of_ble_eq_true rfl⟩) mb_preT rfl rfl hl.1 rfl (lv_room (Nat.le_of_ble_eq_true rfl)) dJ13_numberOfLeadingZeros_95d88_22 ⟨Nat.zero_le _, Nat.zero_le _⟩) ?_
    exact W.iret (v := (f_J6_numberOfLeadingZeros_0f7a4 z_1)) hx hb hr (fun t ht hW => ⟨(f_J6_numberOfLeadingZeros_0f7a4 z_1), rfl, Eq.symm ((congrArg (f_J13_numberOfLeadingZeros_95d88_z_1 x1) (Eq.symm ez_1)).trans ((if_neg c_2).trans (rfl))), ht⟩) (fun q h => by cases h) dJ13_numberOfLeadingZeros_95d88_25
  · refine lv_bipush (v := (32 : Int32)) hx hb dJ13_numberOfLeadingZeros_95d88_10 (by decide) ?_
    refine lv_lload_n hx hb dJ13_numberOfLeadingZeros_95d88_12 rfl (lv_at hl 1 rfl) ?_
    refine lv_l2i hx hb dJ13_numberOfLeadingZeros_95d88_13 rfl ?_
    refine mb_callSi (W.runS (As := [.int x1.toInt32]) (rest := [.int (32 : Int32)]) ⟨hx, hb, hml, hown, hts⟩ (c_J6_numberOfLeadingZeros_0f7a4 l x1.toInt32) (va_cwS 1 hts gJ13_numberOfLeadingZeros_95d88_J6_numberOfLeadingZeros_0f7a4 rfl rfl rfl (by decide +kernel) ⟨Nat.le_of_ble_eq_true rfl, Nat.le_of_ble_eq_true rfl⟩) mb_preT rfl rfl hl.1 rfl (lv_room (Nat.le_of_ble_eq_true rfl)) dJ13_numberOfLeadingZeros_95d88_14 ⟨Nat.zero_le _, Nat.zero_le _⟩) ?_
    refine lv_iadd hx hb dJ13_numberOfLeadingZeros_95d88_17 ?_
    refine lv_goto (tgt := 25) hx hb dJ13_numberOfLeadingZeros_95d88_18 (by decide) ?_
    exact W.iret (v := ((32 : Int32) + (f_J6_numberOfLeadingZeros_0f7a4 x1.toInt32))) hx hb hr (fun t ht hW => ⟨((32 : Int32) + (f_J6_numberOfLeadingZeros_0f7a4 x1.toInt32)), rfl, Eq.symm ((congrArg (f_J13_numberOfLeadingZeros_95d88_z_1 x1) (Eq.symm ez_1)).trans ((if_pos c_2).trans (rfl))), ht⟩) (fun q h => by cases h) dJ13_numberOfLeadingZeros_95d88_25
def f_J13_bitCount_95d88_z_6 (x1 : Int64) (z_1 : Int64) (z_2 : Int64) (z_3 : Int64) (z_4 : Int64) (z_5 : Int64) (z_6 : Int64) : Int32 := (z_6.toInt32 &&& (127 : Int32))
def f_J13_bitCount_95d88_z_5 (x1 : Int64) (z_1 : Int64) (z_2 : Int64) (z_3 : Int64) (z_4 : Int64) (z_5 : Int64) : Int32 := f_J13_bitCount_95d88_z_6 x1 z_1 z_2 z_3 z_4 z_5 (z_5 + ((z_5.toUInt64 >>> ((32 : Int32).toInt64.toUInt64 &&& Int64.toUInt64 63)).toInt64))
def f_J13_bitCount_95d88_z_4 (x1 : Int64) (z_1 : Int64) (z_2 : Int64) (z_3 : Int64) (z_4 : Int64) : Int32 := f_J13_bitCount_95d88_z_5 x1 z_1 z_2 z_3 z_4 (z_4 + ((z_4.toUInt64 >>> ((16 : Int32).toInt64.toUInt64 &&& Int64.toUInt64 63)).toInt64))
def f_J13_bitCount_95d88_z_3 (x1 : Int64) (z_1 : Int64) (z_2 : Int64) (z_3 : Int64) : Int32 := f_J13_bitCount_95d88_z_4 x1 z_1 z_2 z_3 (z_3 + ((z_3.toUInt64 >>> ((8 : Int32).toInt64.toUInt64 &&& Int64.toUInt64 63)).toInt64))
def f_J13_bitCount_95d88_z_2 (x1 : Int64) (z_1 : Int64) (z_2 : Int64) : Int32 := f_J13_bitCount_95d88_z_3 x1 z_1 z_2 ((z_2 + ((z_2.toUInt64 >>> ((4 : Int32).toInt64.toUInt64 &&& Int64.toUInt64 63)).toInt64)) &&& (1085102592571150095 : Int64))
def f_J13_bitCount_95d88_z_1 (x1 : Int64) (z_1 : Int64) : Int32 := f_J13_bitCount_95d88_z_2 x1 z_1 ((z_1 &&& (3689348814741910323 : Int64)) + (((z_1.toUInt64 >>> ((2 : Int32).toInt64.toUInt64 &&& Int64.toUInt64 63)).toInt64) &&& (3689348814741910323 : Int64)))
def f_J13_bitCount_95d88 (x1 : Int64) : Int32 := f_J13_bitCount_95d88_z_1 x1 (x1 - (((x1.toUInt64 >>> ((1 : Int32).toInt64.toUInt64 &&& Int64.toUInt64 63)).toInt64) &&& (6148914691236517205 : Int64)))
set_option maxHeartbeats 4000000 in
set_option maxRecDepth 100000 in
theorem c_J13_bitCount_95d88 (l : Launch) (x1 : Int64) : Met l yJ13_bitCount_95d88 wsJ13_bitCount_95d88 ({ frames := 0, cells := 0, slots := 0, locals := 0 }) (va_Pc [.long x1] (fun _ => True)) (vp_Si (fun r => r = f_J13_bitCount_95d88 x1)) 0 0 (fun _ => False) := by
  refine Met.ofW (cc := cJ13_bitCount_95d88) (maxL := 2) (ret := (some .int)) (by decide) rfl ?_
  intro p e s m args below meth c s₁ B hml hv
  obtain ⟨rfl, -⟩ := hv
  have hx := B.exec
  have hb := B.bytes
  have hr := B.returns
  have hts := atoms_spec (ws := wsJ13_bitCount_95d88) B.pre
  have hown : s.vm.findClass RJ13 = some m.cls := findClass_of_methodNamed B.named
  have hlocks := B.notSynchronized
  have hl := lv_entry ([.long x1]) (n := 2) (Nat.le_of_ble_eq_true rfl)
  rw [lg_entry_eq]
  generalize (lg_sl ([.long x1]) ++ List.replicate (2 - (lg_sl ([.long x1])).length) Slot.unset).toArray = ls at hl ⊢
  have hl : lv_has ls 2 [(0, .long x1)] := hl
  refine lv_lload_n hx hb dJ13_bitCount_95d88_0 rfl (lv_at hl 0 rfl) ?_
  refine lv_lload_n hx hb dJ13_bitCount_95d88_1 rfl (lv_at hl 0 rfl) ?_
  refine lv_iconst (v := (1 : Int32)) hx hb dJ13_bitCount_95d88_2 (by decide) ?_
  refine lv_lushr hx hb dJ13_bitCount_95d88_3 rfl ?_
  refine lv_ldc2 (v := (6148914691236517205 : Int64)) hx hb hown (hts (.constantLong RJ13 314 (6148914691236517205)) (by decide +kernel)) dJ13_bitCount_95d88_4 ?_
  refine lv_land hx hb dJ13_bitCount_95d88_7 ?_
  refine lv_lsub hx hb dJ13_bitCount_95d88_8 ?_
  refine lv_topl (fun z_1 ez_1 => ?_)
  refine lv_lstore_n (lv' := [(0, .long z_1)]) hx hb dJ13_bitCount_95d88_9 rfl hl (by decide) rfl (fun ls hl => ?_)
  refine lv_lload_n hx hb dJ13_bitCount_95d88_10 rfl (lv_at hl 0 rfl) ?_
  refine lv_ldc2 (v := (3689348814741910323 : Int64)) hx hb hown (hts (.constantLong RJ13 316 (3689348814741910323)) (by decide +kernel)) dJ13_bitCount_95d88_11 ?_
  refine lv_land hx hb dJ13_bitCount_95d88_14 ?_
  refine lv_lload_n hx hb dJ13_bitCount_95d88_15 rfl (lv_at hl 0 rfl) ?_
  refine lv_iconst (v := (2 : Int32)) hx hb dJ13_bitCount_95d88_16 (by decide) ?_
  refine lv_lushr hx hb dJ13_bitCount_95d88_17 rfl ?_
  refine lv_ldc2 (v := (3689348814741910323 : Int64)) hx hb hown (hts (.constantLong RJ13 316 (3689348814741910323)) (by decide +kernel)) dJ13_bitCount_95d88_18 ?_
  refine lv_land hx hb dJ13_bitCount_95d88_21 ?_
  refine lv_ladd hx hb dJ13_bitCount_95d88_22 ?_
  refine lv_topl (fun z_2 ez_2 => ?_)
  refine lv_lstore_n (lv' := [(0, .long z_2)]) hx hb dJ13_bitCount_95d88_23 rfl hl (by decide) rfl (fun ls hl => ?_)
  refine lv_lload_n hx hb dJ13_bitCount_95d88_24 rfl (lv_at hl 0 rfl) ?_
  refine lv_lload_n hx hb dJ13_bitCount_95d88_25 rfl (lv_at hl 0 rfl) ?_
  refine lv_iconst (v := (4 : Int32)) hx hb dJ13_bitCount_95d88_26 (by decide) ?_
  refine lv_lushr hx hb dJ13_bitCount_95d88_27 rfl ?_
  refine lv_ladd hx hb dJ13_bitCount_95d88_28 ?_
  refine lv_ldc2 (v := (1085102592571150095 : Int64)) hx hb hown (hts (.constantLong RJ13 318 (1085102592571150095)) (by decide +kernel)) dJ13_bitCount_95d88_29 ?_
  refine lv_land hx hb dJ13_bitCount_95d88_32 ?_
  refine lv_topl (fun z_3 ez_3 => ?_)
  refine lv_lstore_n (lv' := [(0, .long z_3)]) hx hb dJ13_bitCount_95d88_33 rfl hl (by decide) rfl (fun ls hl => ?_)
  refine lv_lload_n hx hb dJ13_bitCount_95d88_34 rfl (lv_at hl 0 rfl) ?_
  refine lv_lload_n hx hb dJ13_bitCount_95d88_35 rfl (lv_at hl 0 rfl) ?_
  refine lv_bipush (v := (8 : Int32)) hx hb dJ13_bitCount_95d88_36 (by decide) ?_
  refine lv_lushr hx hb dJ13_bitCount_95d88_38 rfl ?_
  refine lv_ladd hx hb dJ13_bitCount_95d88_39 ?_
  refine lv_topl (fun z_4 ez_4 => ?_)
  refine lv_lstore_n (lv' := [(0, .long z_4)]) hx hb dJ13_bitCount_95d88_40 rfl hl (by decide) rfl (fun ls hl => ?_)
  refine lv_lload_n hx hb dJ13_bitCount_95d88_41 rfl (lv_at hl 0 rfl) ?_
  refine lv_lload_n hx hb dJ13_bitCount_95d88_42 rfl (lv_at hl 0 rfl) ?_
  refine lv_bipush (v := (16 : Int32)) hx hb dJ13_bitCount_95d88_43 (by decide) ?_
  refine lv_lushr hx hb dJ13_bitCount_95d88_45 rfl ?_
  refine lv_ladd hx hb dJ13_bitCount_95d88_46 ?_
  refine lv_topl (fun z_5 ez_5 => ?_)
  refine lv_lstore_n (lv' := [(0, .long z_5)]) hx hb dJ13_bitCount_95d88_47 rfl hl (by decide) rfl (fun ls hl => ?_)
  refine lv_lload_n hx hb dJ13_bitCount_95d88_48 rfl (lv_at hl 0 rfl) ?_
  refine lv_lload_n hx hb dJ13_bitCount_95d88_49 rfl (lv_at hl 0 rfl) ?_
  refine lv_bipush (v := (32 : Int32)) hx hb dJ13_bitCount_95d88_50 (by decide) ?_
  refine lv_lushr hx hb dJ13_bitCount_95d88_52 rfl ?_
  refine lv_ladd hx hb dJ13_bitCount_95d88_53 ?_
  refine lv_topl (fun z_6 ez_6 => ?_)
  refine lv_lstore_n (lv' := [(0, .long z_6)]) hx hb dJ13_bitCount_95d88_54 rfl hl (by decide) rfl (fun ls hl => ?_)
  refine lv_lload_n hx hb dJ13_bitCount_95d88_55 rfl (lv_at hl 0 rfl) ?_
  refine lv_l2i hx hb dJ13_bitCount_95d88_56 rfl ?_
  refine lv_bipush (v := (127 : Int32)) hx hb dJ13_bitCount_95d88_57 (by decide) ?_
  refine lv_iand hx hb dJ13_bitCount_95d88_59 ?_
  exact W.iret (v := (z_6.toInt32 &&& (127 : Int32))) hx hb hr (fun t ht hW => ⟨(z_6.toInt32 &&& (127 : Int32)), rfl, Eq.symm ((congrArg (f_J13_bitCount_95d88_z_1 x1) (Eq.symm ez_1)).trans ((congrArg (f_J13_bitCount_95d88_z_2 x1 z_1) (Eq.symm ez_2)).trans ((congrArg (f_J13_bitCount_95d88_z_3 x1 z_1 z_2) (Eq.symm ez_3)).trans ((congrArg (f_J13_bitCount_95d88_z_4 x1 z_1 z_2 z_3) (Eq.symm ez_4)).trans ((congrArg (f_J13_bitCount_95d88_z_5 x1 z_1 z_2 z_3 z_4) (Eq.symm ez_5)).trans ((congrArg (f_J13_bitCount_95d88_z_6 x1 z_1 z_2 z_3 z_4 z_5) (Eq.symm ez_6)).trans (rfl))))))), ht⟩) (fun q h => by cases h) dJ13_bitCount_95d88_60
def f_X0_widthOf (x1 : Int64) : Int32 := ((64 : Int32) - (f_J13_numberOfLeadingZeros_95d88 x1))
set_option maxHeartbeats 4000000 in
set_option maxRecDepth 100000 in
theorem c_X0_widthOf (l : Launch) (x1 : Int64) : Met l yX0_widthOf wsX0_widthOf ({ frames := 2, cells := 0, slots := 0, locals := 43 }) (va_Pc [.long x1] (fun _ => True)) (vp_Si (fun r => r = f_X0_widthOf x1)) 0 0 (fun _ => False) := by
  refine Met.ofW (cc := cX0_widthOf) (maxL := 2) (ret := (some .int)) (by decide) rfl ?_
  intro p e s m args below meth c s₁ B hml hv
  obtain ⟨rfl, -⟩ := hv
  have hx := B.exec
  have hb := B.bytes
  have hr := B.returns
  have hts := atoms_spec (ws := wsX0_widthOf) B.pre
  have hown : s.vm.findClass RX0 = some m.cls := findClass_of_methodNamed B.named
  have hlocks := B.notSynchronized
  have hl := lv_entry ([.long x1]) (n := 2) (Nat.le_of_ble_eq_true rfl)
  rw [lg_entry_eq]
  generalize (lg_sl ([.long x1]) ++ List.replicate (2 - (lg_sl ([.long x1])).length) Slot.unset).toArray = ls at hl ⊢
  have hl : lv_has ls 2 [(0, .long x1)] := hl
  refine lv_bipush (v := (64 : Int32)) hx hb dX0_widthOf_0 (by decide) ?_
  refine lv_lload_n hx hb dX0_widthOf_2 rfl (lv_at hl 0 rfl) ?_
  refine mb_callSi (W.runS (As := [.long x1]) (rest := [.int (64 : Int32)]) ⟨hx, hb, hml, hown, hts⟩ (c_J13_numberOfLeadingZeros_95d88 l x1) (va_cwS 1 hts gX0_widthOf_J13_numberOfLeadingZeros_95d88 rfl rfl rfl (by decide +kernel) ⟨Nat.le_of_ble_eq_true rfl, Nat.le_of_ble_eq_true rfl⟩) mb_preT rfl rfl hl.1 rfl (lv_room (Nat.le_of_ble_eq_true rfl)) dX0_widthOf_3 ⟨Nat.zero_le _, Nat.zero_le _⟩) ?_
  refine lv_isub hx hb dX0_widthOf_6 ?_
  exact W.iret (v := ((64 : Int32) - (f_J13_numberOfLeadingZeros_95d88 x1))) hx hb hr (fun t ht hW => ⟨((64 : Int32) - (f_J13_numberOfLeadingZeros_95d88 x1)), rfl, Eq.symm (rfl), ht⟩) (fun q h => by cases h) dX0_widthOf_7
def f_X0_shifted (x1 : Int64) (x2 : Int32) : Int64 := if x2 < 0 then (if (-63 : Int32) ≤ x2 then (x1.toUInt64 >>> ((-x2).toInt64.toUInt64 &&& Int64.toUInt64 63)).toInt64
    else (0 : Int64))
  else (x1 <<< (x2.toInt64 &&& 63))
set_option maxHeartbeats 4000000 in
set_option maxRecDepth 100000 in
theorem c_X0_shifted (l : Launch) (x1 : Int64) (x2 : Int32) : Met l yX0_shifted wsX0_shifted ({ frames := 0, cells := 0, slots := 0, locals := 0 }) (va_Pc [.long x1, .int x2] (fun _ => True)) (vp_Sl (fun r => r = f_X0_shifted x1 x2)) 0 0 (fun _ => False) := by
  refine Met.ofW (cc := cX0_shifted) (maxL := 3) (ret := (some .long)) (by decide) rfl ?_
  intro p e s m args below meth c s₁ B hml hv
  obtain ⟨rfl, -⟩ := hv
  have hx := B.exec
  have hb := B.bytes
  have hr := B.returns
  have hts := atoms_spec (ws := wsX0_shifted) B.pre
  have hown : s.vm.findClass RX0 = some m.cls := findClass_of_methodNamed B.named
  have hlocks := B.notSynchronized
  have hl := lv_entry ([.long x1, .int x2]) (n := 3) (Nat.le_of_ble_eq_true rfl)
  rw [lg_entry_eq]
  generalize (lg_sl ([.long x1, .int x2]) ++ List.replicate (3 - (lg_sl ([.long x1, .int x2])).length) Slot.unset).toArray = ls at hl ⊢
  have hl : lv_has ls 3 [(0, .long x1), (2, .int x2)] := hl
  refine lv_iload_n hx hb dX0_shifted_0 rfl (lv_at hl 1 rfl) ?_
  refine lv_if_lt (tgt := 8) hx hb dX0_shifted_1 (by decide) (fun c_1 => ?_) (fun c_1 => ?_)
  · refine lv_iload_n hx hb dX0_shifted_8 rfl (lv_at hl 1 rfl) ?_
    refine lv_bipush (v := (-63 : Int32)) hx hb dX0_shifted_9 (by decide) ?_
    refine lv_icmp_ge (tgt := 18) hx hb dX0_shifted_11 (by decide) (fun c_2 => ?_) (fun c_2 => ?_)
    · refine lv_lload_n hx hb dX0_shifted_18 rfl (lv_at hl 0 rfl) ?_
      refine lv_iload_n hx hb dX0_shifted_19 rfl (lv_at hl 1 rfl) ?_
      refine lv_ineg hx hb dX0_shifted_20 ?_
      refine lv_lushr hx hb dX0_shifted_21 rfl ?_
      exact W.lret (v := (x1.toUInt64 >>> ((-x2).toInt64.toUInt64 &&& Int64.toUInt64 63)).toInt64) hx hb hr (fun t ht hW => ⟨(x1.toUInt64 >>> ((-x2).toInt64.toUInt64 &&& Int64.toUInt64 63)).toInt64, rfl, Eq.symm ((if_pos c_1).trans ((if_pos c_2).trans (rfl))), ht⟩) (fun q h => by cases h) dX0_shifted_22
    · refine lv_lconst (v := (0 : Int64)) hx hb dX0_shifted_14 (by decide) ?_
      refine lv_goto (tgt := 22) hx hb dX0_shifted_15 (by decide) ?_
      exact W.lret (v := (0 : Int64)) hx hb hr (fun t ht hW => ⟨(0 : Int64), rfl, Eq.symm ((if_pos c_1).trans ((if_neg c_2).trans (rfl))), ht⟩) (fun q h => by cases h) dX0_shifted_22
  · refine lv_lload_n hx hb dX0_shifted_4 rfl (lv_at hl 0 rfl) ?_
    refine lv_iload_n hx hb dX0_shifted_5 rfl (lv_at hl 1 rfl) ?_
    refine lv_lshl hx hb dX0_shifted_6 rfl ?_
    exact W.lret (v := (x1 <<< (x2.toInt64 &&& 63))) hx hb hr (fun t ht hW => ⟨(x1 <<< (x2.toInt64 &&& 63)), rfl, Eq.symm ((if_neg c_1).trans (rfl)), ht⟩) (fun q h => by cases h) dX0_shifted_7
def f_X0_rounded_z_5 (x1 : Int64) (x2 : Int32) (z_3 : Int64) (z_4 : Int64) (z_5 : Int64) : Int64 := if z_5 < z_4 then (if (1 : Int32) = 0 then z_3
    else (z_3 + (1 : Int64)))
  else if z_4 = z_5 then (if (z_3 &&& (1 : Int64)) = (1 : Int64) then (if (1 : Int32) = 0 then z_3
      else (z_3 + (1 : Int64)))
    else if (0 : Int32) = 0 then z_3
    else (z_3 + (1 : Int64)))
  else if (0 : Int32) = 0 then z_3
  else (z_3 + (1 : Int64))
def f_X0_rounded_z_4 (x1 : Int64) (x2 : Int32) (z_3 : Int64) (z_4 : Int64) : Int64 := f_X0_rounded_z_5 x1 x2 z_3 z_4 ((1 : Int64) <<< ((x2 - (1 : Int32)).toInt64 &&& 63))
def f_X0_rounded_z_3 (x1 : Int64) (x2 : Int32) (z_3 : Int64) : Int64 := f_X0_rounded_z_4 x1 x2 z_3 (x1 &&& (((1 : Int64) <<< (x2.toInt64 &&& 63)) - (1 : Int64)))
def f_X0_rounded (x1 : Int64) (x2 : Int32) : Int64 := if 0 < x2 then (if x2 ≤ (60 : Int32) then f_X0_rounded_z_3 x1 x2 ((x1.toUInt64 >>> (x2.toInt64.toUInt64 &&& Int64.toUInt64 63)).toInt64)
    else (0 : Int64))
  else (x1 <<< ((-x2).toInt64 &&& 63))
set_option maxHeartbeats 4000000 in
set_option maxRecDepth 100000 in
theorem c_X0_rounded (l : Launch) (x1 : Int64) (x2 : Int32) : Met l yX0_rounded wsX0_rounded ({ frames := 0, cells := 0, slots := 0, locals := 0 }) (va_Pc [.long x1, .int x2] (fun _ => True)) (vp_Sl (fun r => r = f_X0_rounded x1 x2)) 0 0 (fun _ => False) := by
  refine Met.ofW (cc := cX0_rounded) (maxL := 10) (ret := (some .long)) (by decide) rfl ?_
  intro p e s m args below meth c s₁ B hml hv
  obtain ⟨rfl, -⟩ := hv
  have hx := B.exec
  have hb := B.bytes
  have hr := B.returns
  have hts := atoms_spec (ws := wsX0_rounded) B.pre
  have hown : s.vm.findClass RX0 = some m.cls := findClass_of_methodNamed B.named
  have hlocks := B.notSynchronized
  have hl := lv_entry ([.long x1, .int x2]) (n := 10) (Nat.le_of_ble_eq_true rfl)
  rw [lg_entry_eq]
  generalize (lg_sl ([.long x1, .int x2]) ++ List.replicate (10 - (lg_sl ([.long x1, .int x2])).length) Slot.unset).toArray = ls at hl ⊢
  have hl : lv_has ls 10 [(0, .long x1), (2, .int x2)] := hl
  refine lv_iload_n hx hb dX0_rounded_0 rfl (lv_at hl 1 rfl) ?_
  refine lv_if_gt (tgt := 9) hx hb dX0_rounded_1 (by decide) (fun c_1 => ?_) (fun c_1 => ?_)
  · refine lv_iload_n hx hb dX0_rounded_9 rfl (lv_at hl 1 rfl) ?_
    refine lv_bipush (v := (60 : Int32)) hx hb dX0_rounded_10 (by decide) ?_
    refine lv_icmp_le (tgt := 17) hx hb dX0_rounded_12 (by decide) (fun c_2 => ?_) (fun c_2 => ?_)
    · refine lv_lload_n hx hb dX0_rounded_17 rfl (lv_at hl 0 rfl) ?_
      refine lv_iload_n hx hb dX0_rounded_18 rfl (lv_at hl 1 rfl) ?_
      refine lv_lushr hx hb dX0_rounded_19 rfl ?_
      refine lv_topl (fun z_3 ez_3 => ?_)
      refine lv_lstore_n (lv' := [(3, .long z_3), (0, .long x1), (2, .int x2)]) hx hb dX0_rounded_20 rfl hl (by decide) rfl (fun ls hl => ?_)
      refine lv_lload_n hx hb dX0_rounded_21 rfl (lv_at hl 1 rfl) ?_
      refine lv_lconst (v := (1 : Int64)) hx hb dX0_rounded_22 (by decide) ?_
      refine lv_iload_n hx hb dX0_rounded_23 rfl (lv_at hl 2 rfl) ?_
      refine lv_lshl hx hb dX0_rounded_24 rfl ?_
      refine lv_lconst (v := (1 : Int64)) hx hb dX0_rounded_25 (by decide) ?_
      refine lv_lsub hx hb dX0_rounded_26 ?_
      refine lv_land hx hb dX0_rounded_27 ?_
      refine lv_topl (fun z_4 ez_4 => ?_)
      refine lv_lstore (lv' := [(5, .long z_4), (3, .long z_3), (0, .long x1), (2, .int x2)]) hx hb dX0_rounded_28 hl (by decide) rfl (fun ls hl => ?_)
      refine lv_lconst (v := (1 : Int64)) hx hb dX0_rounded_30 (by decide) ?_
      refine lv_iload_n hx hb dX0_rounded_31 rfl (lv_at hl 3 rfl) ?_
      refine lv_iconst (v := (1 : Int32)) hx hb dX0_rounded_32 (by decide) ?_
      refine lv_isub hx hb dX0_rounded_33 ?_
      refine lv_lshl hx hb dX0_rounded_34 rfl ?_
      refine lv_topl (fun z_5 ez_5 => ?_)
      refine lv_lstore (lv' := [(7, .long z_5), (5, .long z_4), (3, .long z_3), (0, .long x1), (2, .int x2)]) hx hb dX0_rounded_35 hl (by decide) rfl (fun ls hl => ?_)
      refine lv_lload hx hb dX0_rounded_37 (lv_at hl 1 rfl) ?_
      refine lv_lload hx hb dX0_rounded_39 (lv_at hl 0 rfl) ?_
      refine mb_lc_gt (tgt := 61) hx hb dX0_rounded_41 dX0_rounded_42 (by decide) (fun c_6 => ?_) (fun c_6 => ?_)
      · refine lv_iconst (v := (1 : Int32)) hx hb dX0_rounded_61 (by decide) ?_
        refine lv_goto (tgt := 66) hx hb dX0_rounded_62 (by decide) ?_
        refine lv_istore (lv' := [(9, .int (1 : Int32)), (7, .long z_5), (5, .long z_4), (3, .long z_3), (0, .long x1), (2, .int x2)]) hx hb dX0_rounded_66 hl (by decide) rfl (fun ls hl => ?_)
        refine lv_iload hx hb dX0_rounded_68 (lv_at hl 0 rfl) ?_
        refine lv_if_eq (tgt := 79) hx hb dX0_rounded_70 (by decide) (fun c_7 => ?_) (fun c_7 => ?_)
        · refine lv_lload_n hx hb dX0_rounded_79 rfl (lv_at hl 3 rfl) ?_
          exact W.lret (v := z_3) hx hb hr (fun t ht hW => ⟨z_3, rfl, Eq.symm ((if_pos c_1).trans ((if_pos c_2).trans ((congrArg (f_X0_rounded_z_3 x1 x2) (Eq.symm ez_3)).trans ((congrArg (f_X0_rounded_z_4 x1 x2 z_3) (Eq.symm ez_4)).trans ((congrArg (f_X0_rounded_z_5 x1 x2 z_3 z_4) (Eq.symm ez_5)).trans ((if_pos c_6).trans ((if_pos c_7).trans (rfl)))))))), ht⟩) (fun q h => by cases h) dX0_rounded_80
        · refine lv_lload_n hx hb dX0_rounded_73 rfl (lv_at hl 3 rfl) ?_
          refine lv_lconst (v := (1 : Int64)) hx hb dX0_rounded_74 (by decide) ?_
          refine lv_ladd hx hb dX0_rounded_75 ?_
          refine lv_goto (tgt := 80) hx hb dX0_rounded_76 (by decide) ?_
          exact W.lret (v := (z_3 + (1 : Int64))) hx hb hr (fun t ht hW => ⟨(z_3 + (1 : Int64)), rfl, Eq.symm ((if_pos c_1).trans ((if_pos c_2).trans ((congrArg (f_X0_rounded_z_3 x1 x2) (Eq.symm ez_3)).trans ((congrArg (f_X0_rounded_z_4 x1 x2 z_3) (Eq.symm ez_4)).trans ((congrArg (f_X0_rounded_z_5 x1 x2 z_3 z_4) (Eq.symm ez_5)).trans ((if_pos c_6).trans ((if_neg c_7).trans (rfl)))))))), ht⟩) (fun q h => by cases h) dX0_rounded_80
      · refine lv_lload hx hb dX0_rounded_45 (lv_at hl 1 rfl) ?_
        refine lv_lload hx hb dX0_rounded_47 (lv_at hl 0 rfl) ?_
        refine mb_lc_ne (tgt := 65) hx hb dX0_rounded_49 dX0_rounded_50 (by decide) (fun c_8 => ?_) (fun c_8 => ?_)
        · refine lv_iconst (v := (0 : Int32)) hx hb dX0_rounded_65 (by decide) ?_
          refine lv_istore (lv' := [(9, .int (0 : Int32)), (7, .long z_5), (5, .long z_4), (3, .long z_3), (0, .long x1), (2, .int x2)]) hx hb dX0_rounded_66 hl (by decide) rfl (fun ls hl => ?_)
          refine lv_iload hx hb dX0_rounded_68 (lv_at hl 0 rfl) ?_
          refine lv_if_eq (tgt := 79) hx hb dX0_rounded_70 (by decide) (fun c_9 => ?_) (fun c_9 => ?_)
          · refine lv_lload_n hx hb dX0_rounded_79 rfl (lv_at hl 3 rfl) ?_
            exact W.lret (v := z_3) hx hb hr (fun t ht hW => ⟨z_3, rfl, Eq.symm ((if_pos c_1).trans ((if_pos c_2).trans ((congrArg (f_X0_rounded_z_3 x1 x2) (Eq.symm ez_3)).trans ((congrArg (f_X0_rounded_z_4 x1 x2 z_3) (Eq.symm ez_4)).trans ((congrArg (f_X0_rounded_z_5 x1 x2 z_3 z_4) (Eq.symm ez_5)).trans ((if_neg c_6).trans ((if_neg c_8).trans ((if_pos c_9).trans (rfl))))))))), ht⟩) (fun q h => by cases h) dX0_rounded_80
          · refine lv_lload_n hx hb dX0_rounded_73 rfl (lv_at hl 3 rfl) ?_
            refine lv_lconst (v := (1 : Int64)) hx hb dX0_rounded_74 (by decide) ?_
            refine lv_ladd hx hb dX0_rounded_75 ?_
            refine lv_goto (tgt := 80) hx hb dX0_rounded_76 (by decide) ?_
            exact W.lret (v := (z_3 + (1 : Int64))) hx hb hr (fun t ht hW => ⟨(z_3 + (1 : Int64)), rfl, Eq.symm ((if_pos c_1).trans ((if_pos c_2).trans ((congrArg (f_X0_rounded_z_3 x1 x2) (Eq.symm ez_3)).trans ((congrArg (f_X0_rounded_z_4 x1 x2 z_3) (Eq.symm ez_4)).trans ((congrArg (f_X0_rounded_z_5 x1 x2 z_3 z_4) (Eq.symm ez_5)).trans ((if_neg c_6).trans ((if_neg c_8).trans ((if_neg c_9).trans (rfl))))))))), ht⟩) (fun q h => by cases h) dX0_rounded_80
        · refine lv_lload_n hx hb dX0_rounded_53 rfl (lv_at hl 2 rfl) ?_
          refine lv_lconst (v := (1 : Int64)) hx hb dX0_rounded_54 (by decide) ?_
          refine lv_land hx hb dX0_rounded_55 ?_
          refine lv_lconst (v := (1 : Int64)) hx hb dX0_rounded_56 (by decide) ?_
          refine mb_lc_ne (tgt := 65) hx hb dX0_rounded_57 dX0_rounded_58 (by decide) (fun c_10 => ?_) (fun c_10 => ?_)
          · refine lv_iconst (v := (0 : Int32)) hx hb dX0_rounded_65 (by decide) ?_
            refine lv_istore (lv' := [(9, .int (0 : Int32)), (7, .long z_5), (5, .long z_4), (3, .long z_3), (0, .long x1), (2, .int x2)]) hx hb dX0_rounded_66 hl (by decide) rfl (fun ls hl => ?_)
            refine lv_iload hx hb dX0_rounded_68 (lv_at hl 0 rfl) ?_
            refine lv_if_eq (tgt := 79) hx hb dX0_rounded_70 (by decide) (fun c_11 => ?_) (fun c_11 => ?_)
            · refine lv_lload_n hx hb dX0_rounded_79 rfl (lv_at hl 3 rfl) ?_
              exact W.lret (v := z_3) hx hb hr (fun t ht hW => ⟨z_3, rfl, Eq.symm ((if_pos c_1).trans ((if_pos c_2).trans ((congrArg (f_X0_rounded_z_3 x1 x2) (Eq.symm ez_3)).trans ((congrArg (f_X0_rounded_z_4 x1 x2 z_3) (Eq.symm ez_4)).trans ((congrArg (f_X0_rounded_z_5 x1 x2 z_3 z_4) (Eq.symm ez_5)).trans ((if_neg c_6).trans ((if_pos c_8).trans ((if_neg c_10).trans ((if_pos c_11).trans (rfl)))))))))), ht⟩) (fun q h => by cases h) dX0_rounded_80
            · refine lv_lload_n hx hb dX0_rounded_73 rfl (lv_at hl 3 rfl) ?_
              refine lv_lconst (v := (1 : Int64)) hx hb dX0_rounded_74 (by decide) ?_
              refine lv_ladd hx hb dX0_rounded_75 ?_
              refine lv_goto (tgt := 80) hx hb dX0_rounded_76 (by decide) ?_
              exact W.lret (v := (z_3 + (1 : Int64))) hx hb hr (fun t ht hW => ⟨(z_3 + (1 : Int64)), rfl, Eq.symm ((if_pos c_1).trans ((if_pos c_2).trans ((congrArg (f_X0_rounded_z_3 x1 x2) (Eq.symm ez_3)).trans ((congrArg (f_X0_rounded_z_4 x1 x2 z_3) (Eq.symm ez_4)).trans ((congrArg (f_X0_rounded_z_5 x1 x2 z_3 z_4) (Eq.symm ez_5)).trans ((if_neg c_6).trans ((if_pos c_8).trans ((if_neg c_10).trans ((if_neg c_11).trans (rfl)))))))))), ht⟩) (fun q h => by cases h) dX0_rounded_80
          · refine lv_iconst (v := (1 : Int32)) hx hb dX0_rounded_61 (by decide) ?_
            refine lv_goto (tgt := 66) hx hb dX0_rounded_62 (by decide) ?_
            refine lv_istore (lv' := [(9, .int (1 : Int32)), (7, .long z_5), (5, .long z_4), (3, .long z_3), (0, .long x1), (2, .int x2)]) hx hb dX0_rounded_66 hl (by decide) rfl (fun ls hl => ?_)
            refine lv_iload hx hb dX0_rounded_68 (lv_at hl 0 rfl) ?_
            refine lv_if_eq (tgt := 79) hx hb dX0_rounded_70 (by decide) (fun c_12 => ?_) (fun c_12 => ?_)
            · refine lv_lload_n hx hb dX0_rounded_79 rfl (lv_at hl 3 rfl) ?_
              exact W.lret (v := z_3) hx hb hr (fun t ht hW => ⟨z_3, rfl, Eq.symm ((if_pos c_1).trans ((if_pos c_2).trans ((congrArg (f_X0_rounded_z_3 x1 x2) (Eq.symm ez_3)).trans ((congrArg (f_X0_rounded_z_4 x1 x2 z_3) (Eq.symm ez_4)).trans ((congrArg (f_X0_rounded_z_5 x1 x2 z_3 z_4) (Eq.symm ez_5)).trans ((if_neg c_6).trans ((if_pos c_8).trans ((if_pos c_10).trans ((if_pos c_12).trans (rfl)))))))))), ht⟩) (fun q h => by cases h) dX0_rounded_80
            · refine lv_lload_n hx hb dX0_rounded_73 rfl (lv_at hl 3 rfl) ?_
              refine lv_lconst (v := (1 : Int64)) hx hb dX0_rounded_74 (by decide) ?_
              refine lv_ladd hx hb dX0_rounded_75 ?_
              refine lv_goto (tgt := 80) hx hb dX0_rounded_76 (by decide) ?_
              exact W.lret (v := (z_3 + (1 : Int64))) hx hb hr (fun t ht hW => ⟨(z_3 + (1 : Int64)), rfl, Eq.symm ((if_pos c_1).trans ((if_pos c_2).trans ((congrArg (f_X0_rounded_z_3 x1 x2) (Eq.symm ez_3)).trans ((congrArg (f_X0_rounded_z_4 x1 x2 z_3) (Eq.symm ez_4)).trans ((congrArg (f_X0_rounded_z_5 x1 x2 z_3 z_4) (Eq.symm ez_5)).trans ((if_neg c_6).trans ((if_pos c_8).trans ((if_pos c_10).trans ((if_neg c_12).trans (rfl)))))))))), ht⟩) (fun q h => by cases h) dX0_rounded_80
    · refine lv_lconst (v := (0 : Int64)) hx hb dX0_rounded_15 (by decide) ?_
      exact W.lret (v := (0 : Int64)) hx hb hr (fun t ht hW => ⟨(0 : Int64), rfl, Eq.symm ((if_pos c_1).trans ((if_neg c_2).trans (rfl))), ht⟩) (fun q h => by cases h) dX0_rounded_16
  · refine lv_lload_n hx hb dX0_rounded_4 rfl (lv_at hl 0 rfl) ?_
    refine lv_iload_n hx hb dX0_rounded_5 rfl (lv_at hl 1 rfl) ?_
    refine lv_ineg hx hb dX0_rounded_6 ?_
    refine lv_lshl hx hb dX0_rounded_7 rfl ?_
    exact W.lret (v := (x1 <<< ((-x2).toInt64 &&& 63))) hx hb hr (fun t ht hW => ⟨(x1 <<< ((-x2).toInt64 &&& 63)), rfl, Eq.symm ((if_neg c_1).trans (rfl)), ht⟩) (fun q h => by cases h) dX0_rounded_8

/-- the count of bits that are left is under k -/
def mb_sh (k : Nat) (r : Int64) : Prop := 0 < k ∧ r.toBitVec.toNat < 2 ^ (k - 1)
theorem mb_sh_in (r : Int64) : mb_sh 65 r := ⟨by decide, r.toBitVec.isLt⟩
theorem mb_sh_step {k : Nat} {r : Int64} (h : mb_sh (k + 1) r) (h0 : ¬ r = 0) : mb_sh k ((r.toUInt64 >>> ((1 : Int32).toInt64.toUInt64 &&& Int64.toUInt64 63)).toInt64) := by
  obtain ⟨-, h1⟩ := h
  have hne : r.toBitVec.toNat ≠ 0 := fun q => h0 (Int64.toBitVec_inj.mp (BitVec.eq_of_toNat_eq (by rw [q]; rfl)))
  have hk : 0 < k := by
    rcases Nat.eq_zero_or_pos k with q | q
    · subst q
      simp at h1
      exact absurd h1 (by simpa using hne)
    · exact q
  refine ⟨hk, ?_⟩
  have e : ((r.toUInt64 >>> ((1 : Int32).toInt64.toUInt64 &&& Int64.toUInt64 63)).toInt64).toBitVec.toNat = r.toBitVec.toNat / 2 := by
    show (r.toUInt64 >>> ((1 : Int32).toInt64.toUInt64 &&& Int64.toUInt64 63)).toNat = _
    rw [UInt64.toNat_shiftRight]
    have : ((1 : Int32).toInt64.toUInt64 &&& Int64.toUInt64 63).toNat % 64 = 1 := by decide +kernel
    rw [this, Nat.shiftRight_eq_div_pow]
    rfl
  rw [e]
  have e2 : 2 ^ (k + 1 - 1) = 2 * 2 ^ (k - 1) := by
    obtain ⟨j, rfl⟩ : ∃ j, k = j + 1 := ⟨k - 1, by omega⟩
    rw [Nat.add_sub_cancel, Nat.add_sub_cancel, Nat.pow_succ, Nat.mul_comm]
  rw [e2] at h1
  omega
theorem mb_and_pow (n i : Nat) : n &&& 2 ^ i = if n.testBit i = true then 2 ^ i else 0 := by
  apply Nat.eq_of_testBit_eq
  intro j
  rw [Nat.testBit_and, Nat.testBit_two_pow]
  by_cases h : i = j
  · subst h
    by_cases g : n.testBit i = true <;> simp [g, Nat.testBit_two_pow]
  · by_cases g : n.testBit i = true <;> simp [g, h, Nat.testBit_two_pow]
/-- a fraction under 2^24 that is not 0: k doublings bring its top bit to its place -/
def mb_wd (k : Nat) (r : Int64) : Prop := 0 < k ∧ 0 < r.toBitVec.toNat ∧ r.toBitVec.toNat < 16777216 ∧ 8388608 ≤ r.toBitVec.toNat * 2 ^ (k - 1)
theorem mb_and_bit (r : Int64) (h : r.toBitVec.toNat < 16777216) : (r &&& (8388608 : Int64)) = 0 ↔ r.toBitVec.toNat < 8388608 := by
  have e : (r &&& (8388608 : Int64)).toBitVec.toNat = r.toBitVec.toNat &&& 8388608 := by
    show (r.toBitVec &&& (8388608 : Int64).toBitVec).toNat = _
    rw [BitVec.toNat_and]
    rfl
  have e2 : r.toBitVec.toNat &&& 8388608 = if r.toBitVec.toNat < 8388608 then 0 else 8388608 := by
    have e3 : (8388608 : Nat) = 2 ^ 23 := rfl
    rw [e3, mb_and_pow]
    rcases Nat.lt_or_ge r.toBitVec.toNat (2 ^ 23) with g | g
    · rw [if_pos g, Nat.testBit_lt_two_pow g]
      simp
    · rw [Nat.testBit_of_two_pow_le_and_two_pow_add_one_gt g (by omega), if_pos rfl, if_neg (by omega)]
  constructor
  · intro q
    rcases Nat.lt_or_ge r.toBitVec.toNat 8388608 with g | g
    · exact g
    · have : (r &&& (8388608 : Int64)).toBitVec.toNat = 0 := by rw [q]; rfl
      rw [e, e2, if_neg (by omega)] at this
      omega
  · intro q
    apply Int64.toBitVec_inj.mp
    apply BitVec.eq_of_toNat_eq
    rw [e, e2, if_pos q]
    rfl
theorem mb_shl1 (r : Int64) (h : r.toBitVec.toNat < 16777216) : (r <<< ((1 : Int32).toInt64 &&& 63)).toBitVec.toNat = r.toBitVec.toNat * 2 := by
  have e : (r <<< ((1 : Int32).toInt64 &&& 63)).toBitVec = r.toBitVec <<< (1 : Nat) := by
    show r.toBitVec <<< (((1 : Int32).toInt64 &&& 63).toBitVec.smod 64) = _
    have : ((1 : Int32).toInt64 &&& 63).toBitVec.smod 64 = 1#64 := by decide +kernel
    rw [this]
    rfl
  rw [e, BitVec.toNat_shiftLeft, Nat.shiftLeft_eq]
  omega
theorem mb_wd_step {k : Nat} {r : Int64} (h : mb_wd (k + 1) r) (h0 : (r &&& (8388608 : Int64)) = (0 : Int64)) : mb_wd k (r <<< ((1 : Int32).toInt64 &&& 63)) := by
  obtain ⟨-, h1, h2, h3⟩ := h
  have hb := (mb_and_bit r h2).mp h0
  have hk : 0 < k := by
    rcases Nat.eq_zero_or_pos k with q | q
    · subst q
      simp at h3
      omega
    · exact q
  have e := mb_shl1 r h2
  refine ⟨hk, by omega, by omega, ?_⟩
  rw [e]
  obtain ⟨j, rfl⟩ : ∃ j, k = j + 1 := ⟨k - 1, by omega⟩
  simp only [Nat.add_sub_cancel] at h3 ⊢
  rw [Nat.pow_succ] at h3
  rw [Nat.mul_assoc, Nat.mul_comm 2]
  exact h3
theorem mb_frac (b : Int64) : (b &&& (8388607 : Int64)).toBitVec.toNat < 8388608 := by
  have e : (b &&& (8388607 : Int64)).toBitVec.toNat = b.toBitVec.toNat &&& 8388607 := by
    show (b.toBitVec &&& (8388607 : Int64).toBitVec).toNat = _
    rw [BitVec.toNat_and]
    rfl
  rw [e]
  exact Nat.lt_of_le_of_lt Nat.and_le_right (by decide)
theorem mb_wd_in {r : Int64} (h : r.toBitVec.toNat < 8388608) (h0 : ¬ r = 0) : mb_wd 24 r := by
  have hne : r.toBitVec.toNat ≠ 0 := fun q => h0 (Int64.toBitVec_inj.mp (BitVec.eq_of_toNat_eq (by rw [q]; rfl)))
  refine ⟨by decide, by omega, by omega, ?_⟩
  simp only [Nat.reduceSub, Nat.reducePow]
  omega
def f_X3_real_159 (x1 : Int64) (x2 : Int32) (x3 : Int32) (x4 : Int64) (mm : Int64) (nn : Int32) (sg : Int64) : Int64 := ((sg ||| ((((nn - (1 : Int32)) + x3).toInt64) <<< ((x2 - (1 : Int32)).toInt64 &&& 63))) ||| (mm &&& (((1 : Int64) <<< ((x2 - (1 : Int32)).toInt64 &&& 63)) - (1 : Int64))))
def f_X3_real_147 (x1 : Int64) (x2 : Int32) (x3 : Int32) (x4 : Int64) (mm : Int64) (nn : Int32) : Int64 := if (0 : Int64) ≤ x1 then f_X3_real_159 x1 x2 x3 x4 mm nn (0 : Int64)
  else f_X3_real_159 x1 x2 x3 x4 mm nn x4
def f_X3_real_z_3 (x1 : Int64) (x2 : Int32) (x3 : Int32) (x4 : Int64) (mm : Int64) (nn : Int32) (z_3 : Int64) : Int64 := f_X3_real_147 x1 x2 x3 x4 z_3 (nn + (1 : Int32))
def f_X3_real_129 (x1 : Int64) (x2 : Int32) (x3 : Int32) (x4 : Int64) (mm : Int64) (nn : Int32) : Int64 := if mm = ((1 : Int64) <<< (x2.toInt64 &&& 63)) then f_X3_real_z_3 x1 x2 x3 x4 mm nn ((mm.toUInt64 >>> ((1 : Int32).toInt64.toUInt64 &&& Int64.toUInt64 63)).toInt64)
  else f_X3_real_147 x1 x2 x3 x4 mm nn
def f_X3_real_z_7 (x1 : Int64) (x2 : Int32) (x3 : Int32) (x4 : Int64) (mm : Int64) (nn : Int32) (z_5 : Int64) (z_6 : Int64) (z_7 : Int64) : Int64 := if z_6 < z_5 then f_X3_real_129 x1 x2 x3 x4 (z_7 + (1 : Int64)) nn
  else if z_5 = z_6 then (if (z_7 &&& (1 : Int64)) = (1 : Int64) then f_X3_real_129 x1 x2 x3 x4 (z_7 + (1 : Int64)) nn
    else f_X3_real_129 x1 x2 x3 x4 z_7 nn)
  else f_X3_real_129 x1 x2 x3 x4 z_7 nn
def f_X3_real_z_6 (x1 : Int64) (x2 : Int32) (x3 : Int32) (x4 : Int64) (mm : Int64) (nn : Int32) (z_5 : Int64) (z_6 : Int64) : Int64 := f_X3_real_z_7 x1 x2 x3 x4 mm nn z_5 z_6 ((mm.toUInt64 >>> ((nn - x2).toInt64.toUInt64 &&& Int64.toUInt64 63)).toInt64)
def f_X3_real_z_5 (x1 : Int64) (x2 : Int32) (x3 : Int32) (x4 : Int64) (mm : Int64) (nn : Int32) (z_5 : Int64) : Int64 := f_X3_real_z_6 x1 x2 x3 x4 mm nn z_5 ((1 : Int64) <<< (((nn - x2) - (1 : Int32)).toInt64 &&& 63))
def f_X3_real_48 (x1 : Int64) (x2 : Int32) (x3 : Int32) (x4 : Int64) (mm : Int64) (nn : Int32) : Int64 := if x2 < nn then f_X3_real_z_5 x1 x2 x3 x4 mm nn (mm &&& (((1 : Int64) <<< ((nn - x2).toInt64 &&& 63)) - (1 : Int64)))
  else f_X3_real_147 x1 x2 x3 x4 (mm <<< ((x2 - nn).toInt64 &&& 63)) nn
def f_X3_real_29 : Nat → Int64 → Int32 → Int32 → Int64 → Int64 → Int32 → Int64 → Int64
  | 0, _, _, _, _, _, _, _ => 0
  | k + 1, x1, x2, x3, x4, mm, nn, rr => if rr = (0 : Int64) then f_X3_real_48 x1 x2 x3 x4 mm nn
  else f_X3_real_29 k x1 x2 x3 x4 mm (nn + (1 : Int32)) ((rr.toUInt64 >>> ((1 : Int32).toInt64.toUInt64 &&& Int64.toUInt64 63)).toInt64)
def f_X3_real_20 (x1 : Int64) (x2 : Int32) (x3 : Int32) (x4 : Int64) (mm : Int64) : Int64 := f_X3_real_29 65 x1 x2 x3 x4 mm (0 : Int32) mm
def f_X3_real (x1 : Int64) (x2 : Int32) (x3 : Int32) (x4 : Int64) : Int64 := if x1 = (0 : Int64) then (0 : Int64)
  else if (0 : Int64) ≤ x1 then f_X3_real_20 x1 x2 x3 x4 x1
  else f_X3_real_20 x1 x2 x3 x4 (-x1)
set_option maxHeartbeats 4000000 in
set_option maxRecDepth 100000 in
theorem c_X3_real (l : Launch) (x1 : Int64) (x2 : Int32) (x3 : Int32) (x4 : Int64) : Met l yX3_real wsX3_real ({ frames := 0, cells := 0, slots := 0, locals := 0 }) (va_Pc [.long x1, .int x2, .int x3, .long x4] (fun _ => True)) (vp_Sl (fun r => r = f_X3_real x1 x2 x3 x4)) 0 0 (fun _ => False) := by
  refine Met.ofW (cc := cX3_real) (maxL := 14) (ret := (some .long)) (by decide) rfl ?_
  intro p e s m args below meth c s₁ B hml hv
  obtain ⟨rfl, -⟩ := hv
  have hx := B.exec
  have hb := B.bytes
  have hr := B.returns
  have hts := atoms_spec (ws := wsX3_real) B.pre
  have hown : s.vm.findClass RX3 = some m.cls := findClass_of_methodNamed B.named
  have hlocks := B.notSynchronized
  have K_159 : ∀ (mm : Int64) (nn : Int32) (sg : Int64) (ls : Array Slot) , lv_has ls 14 [(0, .long x1), (2, .int x2), (3, .int x3), (4, .long x4), (6, .long mm), (8, .int nn)] → f_X3_real x1 x2 x3 x4 = f_X3_real_159 x1 x2 x3 x4 mm nn sg → W p l e (headSpec wsX3_real ({ frames := 0, cells := 0, slots := 0, locals := 0 })).room s m ([.long x1, .int x2, .int x3, .long x4] : List Value).toArray below meth c s.heap [] 0 0 (MQ below (vp_Sl (fun r => r = f_X3_real x1 x2 x3 x4)) ([.long x1, .int x2, .int x3, .long x4] : List Value).toArray s 0 0 (fun _ => False)) (F0 m 159 ls [.long sg]) := by
    intro mm nn sg ls  hl hz
    refine lv_iload hx hb dX3_real_159 (lv_at hl 5 rfl) ?_
    refine lv_iconst (v := (1 : Int32)) hx hb dX3_real_161 (by decide) ?_
    refine lv_isub hx hb dX3_real_162 ?_
    refine lv_iload_n hx hb dX3_real_163 rfl (lv_at hl 2 rfl) ?_
    refine lv_iadd hx hb dX3_real_164 ?_
    refine lv_i2l hx hb dX3_real_165 rfl ?_
    refine lv_iload_n hx hb dX3_real_166 rfl (lv_at hl 1 rfl) ?_
    refine lv_iconst (v := (1 : Int32)) hx hb dX3_real_167 (by decide) ?_
    refine lv_isub hx hb dX3_real_168 ?_
    refine lv_lshl hx hb dX3_real_169 rfl ?_
    refine lv_lor hx hb dX3_real_170 ?_
    refine lv_lload hx hb dX3_real_171 (lv_at hl 4 rfl) ?_
    refine lv_lconst (v := (1 : Int64)) hx hb dX3_real_173 (by decide) ?_
    refine lv_iload_n hx hb dX3_real_174 rfl (lv_at hl 1 rfl) ?_
    refine lv_iconst (v := (1 : Int32)) hx hb dX3_real_175 (by decide) ?_
    refine lv_isub hx hb dX3_real_176 ?_
    refine lv_lshl hx hb dX3_real_177 rfl ?_
    refine lv_lconst (v := (1 : Int64)) hx hb dX3_real_178 (by decide) ?_
    refine lv_lsub hx hb dX3_real_179 ?_
    refine lv_land hx hb dX3_real_180 ?_
    refine lv_lor hx hb dX3_real_181 ?_
    exact W.lret (v := ((sg ||| ((((nn - (1 : Int32)) + x3).toInt64) <<< ((x2 - (1 : Int32)).toInt64 &&& 63))) ||| (mm &&& (((1 : Int64) <<< ((x2 - (1 : Int32)).toInt64 &&& 63)) - (1 : Int64))))) hx hb hr (fun t ht hW => ⟨((sg ||| ((((nn - (1 : Int32)) + x3).toInt64) <<< ((x2 - (1 : Int32)).toInt64 &&& 63))) ||| (mm &&& (((1 : Int64) <<< ((x2 - (1 : Int32)).toInt64 &&& 63)) - (1 : Int64)))), rfl, Eq.symm (hz.trans (rfl)), ht⟩) (fun q h => by cases h) dX3_real_182
  have K_147 : ∀ (mm : Int64) (nn : Int32) (ls : Array Slot) , lv_has ls 14 [(0, .long x1), (2, .int x2), (3, .int x3), (4, .long x4), (6, .long mm), (8, .int nn)] → f_X3_real x1 x2 x3 x4 = f_X3_real_147 x1 x2 x3 x4 mm nn → W p l e (headSpec wsX3_real ({ frames := 0, cells := 0, slots := 0, locals := 0 })).room s m ([.long x1, .int x2, .int x3, .long x4] : List Value).toArray below meth c s.heap [] 0 0 (MQ below (vp_Sl (fun r => r = f_X3_real x1 x2 x3 x4)) ([.long x1, .int x2, .int x3, .long x4] : List Value).toArray s 0 0 (fun _ => False)) (F0 m 147 ls []) := by
    intro mm nn ls  hl hz
    refine lv_lload_n hx hb dX3_real_147 rfl (lv_at hl 0 rfl) ?_
    refine lv_lconst (v := (0 : Int64)) hx hb dX3_real_148 (by decide) ?_
    refine mb_lc_ge (tgt := 158) hx hb dX3_real_149 dX3_real_150 (by decide) (fun c_1 => ?_) (fun c_1 => ?_)
    · refine lv_lconst (v := (0 : Int64)) hx hb dX3_real_158 (by decide) ?_
      exact K_159 mm nn (0 : Int64) ls  (lv_sub hl [0, 1, 2, 3, 4, 5] rfl) (hz.trans ((if_pos c_1).trans (rfl)))
    · refine lv_lload hx hb dX3_real_153 (lv_at hl 3 rfl) ?_
      refine lv_goto (tgt := 159) hx hb dX3_real_155 (by decide) ?_
      exact K_159 mm nn x4 ls  (lv_sub hl [0, 1, 2, 3, 4, 5] rfl) (hz.trans ((if_neg c_1).trans (rfl)))
  have K_129 : ∀ (mm : Int64) (nn : Int32) (ls : Array Slot) , lv_has ls 14 [(0, .long x1), (2, .int x2), (3, .int x3), (4, .long x4), (6, .long mm), (8, .int nn)] → f_X3_real x1 x2 x3 x4 = f_X3_real_129 x1 x2 x3 x4 mm nn → W p l e (headSpec wsX3_real ({ frames := 0, cells := 0, slots := 0, locals := 0 })).room s m ([.long x1, .int x2, .int x3, .long x4] : List Value).toArray below meth c s.heap [] 0 0 (MQ below (vp_Sl (fun r => r = f_X3_real x1 x2 x3 x4)) ([.long x1, .int x2, .int x3, .long x4] : List Value).toArray s 0 0 (fun _ => False)) (F0 m 129 ls []) := by
    intro mm nn ls  hl hz
    refine lv_lload hx hb dX3_real_129 (lv_at hl 4 rfl) ?_
    refine lv_lconst (v := (1 : Int64)) hx hb dX3_real_131 (by decide) ?_
    refine lv_iload_n hx hb dX3_real_132 rfl (lv_at hl 1 rfl) ?_
    refine lv_lshl hx hb dX3_real_133 rfl ?_
    refine mb_lc_ne (tgt := 147) hx hb dX3_real_134 dX3_real_135 (by decide) (fun c_2 => ?_) (fun c_2 => ?_)
    · exact K_147 mm nn ls  (lv_sub hl [0, 1, 2, 3, 4, 5] rfl) (hz.trans ((if_neg c_2).trans (rfl)))
    · refine lv_lload hx hb dX3_real_138 (lv_at hl 4 rfl) ?_
      refine lv_iconst (v := (1 : Int32)) hx hb dX3_real_140 (by decide) ?_
      refine lv_lushr hx hb dX3_real_141 rfl ?_
      refine lv_topl (fun z_3 ez_3 => ?_)
      refine lv_lstore (lv' := [(6, .long z_3), (0, .long x1), (2, .int x2), (3, .int x3), (4, .long x4), (8, .int nn)]) hx hb dX3_real_142 hl (by decide) rfl (fun ls hl => ?_)
      refine lv_iinc (v := (nn + (1 : Int32))) (lv' := [(8, .int (nn + (1 : Int32))), (6, .long z_3), (0, .long x1), (2, .int x2), (3, .int x3), (4, .long x4)]) hx hb dX3_real_144 hl (k := 5) rfl rfl (by decide) rfl (fun ls hl => ?_)
      exact K_147 z_3 (nn + (1 : Int32)) ls  (lv_sub hl [2, 3, 4, 5, 1, 0] rfl) (hz.trans ((if_pos c_2).trans ((congrArg (f_X3_real_z_3 x1 x2 x3 x4 mm nn) (Eq.symm ez_3)).trans (rfl))))
  have K_48 : ∀ (mm : Int64) (nn : Int32) (ls : Array Slot) , lv_has ls 14 [(0, .long x1), (2, .int x2), (3, .int x3), (4, .long x4), (6, .long mm), (8, .int nn)] → f_X3_real x1 x2 x3 x4 = f_X3_real_48 x1 x2 x3 x4 mm nn → W p l e (headSpec wsX3_real ({ frames := 0, cells := 0, slots := 0, locals := 0 })).room s m ([.long x1, .int x2, .int x3, .long x4] : List Value).toArray below meth c s.heap [] 0 0 (MQ below (vp_Sl (fun r => r = f_X3_real x1 x2 x3 x4)) ([.long x1, .int x2, .int x3, .long x4] : List Value).toArray s 0 0 (fun _ => False)) (F0 m 48 ls []) := by
    intro mm nn ls  hl hz
    refine lv_iload hx hb dX3_real_48 (lv_at hl 5 rfl) ?_
    refine lv_iload_n hx hb dX3_real_50 rfl (lv_at hl 1 rfl) ?_
    refine lv_icmp_gt (tgt := 66) hx hb dX3_real_51 (by decide) (fun c_4 => ?_) (fun c_4 => ?_)
    · refine lv_iload hx hb dX3_real_66 (lv_at hl 5 rfl) ?_
      refine lv_iload_n hx hb dX3_real_68 rfl (lv_at hl 1 rfl) ?_
      refine lv_isub hx hb dX3_real_69 ?_
      refine lv_istore (lv' := [(9, .int (nn - x2)), (0, .long x1), (2, .int x2), (3, .int x3), (4, .long x4), (6, .long mm), (8, .int nn)]) hx hb dX3_real_70 hl (by decide) rfl (fun ls hl => ?_)
      refine lv_lload hx hb dX3_real_72 (lv_at hl 5 rfl) ?_
      refine lv_lconst (v := (1 : Int64)) hx hb dX3_real_74 (by decide) ?_
      refine lv_iload hx hb dX3_real_75 (lv_at hl 0 rfl) ?_
      refine lv_lshl hx hb dX3_real_77 rfl ?_
      refine lv_lconst (v := (1 : Int64)) hx hb dX3_real_78 (by decide) ?_
      refine lv_lsub hx hb dX3_real_79 ?_
      refine lv_land hx hb dX3_real_80 ?_
      refine lv_topl (fun z_5 ez_5 => ?_)
      refine lv_lstore (lv' := [(10, .long z_5), (9, .int (nn - x2)), (0, .long x1), (2, .int x2), (3, .int x3), (4, .long x4), (6, .long mm), (8, .int nn)]) hx hb dX3_real_81 hl (by decide) rfl (fun ls hl => ?_)
      refine lv_lconst (v := (1 : Int64)) hx hb dX3_real_83 (by decide) ?_
      refine lv_iload hx hb dX3_real_84 (lv_at hl 1 rfl) ?_
      refine lv_iconst (v := (1 : Int32)) hx hb dX3_real_86 (by decide) ?_
      refine lv_isub hx hb dX3_real_87 ?_
      refine lv_lshl hx hb dX3_real_88 rfl ?_
      refine lv_topl (fun z_6 ez_6 => ?_)
      refine lv_lstore (lv' := [(12, .long z_6), (10, .long z_5), (9, .int (nn - x2)), (0, .long x1), (2, .int x2), (3, .int x3), (4, .long x4), (6, .long mm), (8, .int nn)]) hx hb dX3_real_89 hl (by decide) rfl (fun ls hl => ?_)
      refine lv_lload hx hb dX3_real_91 (lv_at hl 7 rfl) ?_
      refine lv_iload hx hb dX3_real_93 (lv_at hl 2 rfl) ?_
      refine lv_lushr hx hb dX3_real_95 rfl ?_
      refine lv_topl (fun z_7 ez_7 => ?_)
      refine lv_lstore (lv' := [(6, .long z_7), (12, .long z_6), (10, .long z_5), (9, .int (nn - x2)), (0, .long x1), (2, .int x2), (3, .int x3), (4, .long x4), (8, .int nn)]) hx hb dX3_real_96 hl (by decide) rfl (fun ls hl => ?_)
      refine lv_lload hx hb dX3_real_98 (lv_at hl 2 rfl) ?_
      refine lv_lload hx hb dX3_real_100 (lv_at hl 1 rfl) ?_
      refine mb_lc_gt (tgt := 123) hx hb dX3_real_102 dX3_real_103 (by decide) (fun c_8 => ?_) (fun c_8 => ?_)
      · refine lv_lload hx hb dX3_real_123 (lv_at hl 0 rfl) ?_
        refine lv_lconst (v := (1 : Int64)) hx hb dX3_real_125 (by decide) ?_
        refine lv_ladd hx hb dX3_real_126 ?_
        refine lv_lstore (lv' := [(6, .long (z_7 + (1 : Int64))), (12, .long z_6), (10, .long z_5), (9, .int (nn - x2)), (0, .long x1), (2, .int x2), (3, .int x3), (4, .long x4), (8, .int nn)]) hx hb dX3_real_127 hl (by decide) rfl (fun ls hl => ?_)
        exact K_129 (z_7 + (1 : Int64)) nn ls  (lv_sub hl [4, 5, 6, 7, 0, 8] rfl) (hz.trans ((if_pos c_4).trans ((congrArg (f_X3_real_z_5 x1 x2 x3 x4 mm nn) (Eq.symm ez_5)).trans ((congrArg (f_X3_real_z_6 x1 x2 x3 x4 mm nn z_5) (Eq.symm ez_6)).trans ((congrArg (f_X3_real_z_7 x1 x2 x3 x4 mm nn z_5 z_6) (Eq.symm ez_7)).trans ((if_pos c_8).trans (rfl)))))))
      · refine lv_lload hx hb dX3_real_106 (lv_at hl 2 rfl) ?_
        refine lv_lload hx hb dX3_real_108 (lv_at hl 1 rfl) ?_
        refine mb_lc_ne (tgt := 129) hx hb dX3_real_110 dX3_real_111 (by decide) (fun c_9 => ?_) (fun c_9 => ?_)
        · exact K_129 z_7 nn ls  (lv_sub hl [4, 5, 6, 7, 0, 8] rfl) (hz.trans ((if_pos c_4).trans ((congrArg (f_X3_real_z_5 x1 x2 x3 x4 mm nn) (Eq.symm ez_5)).trans ((congrArg (f_X3_real_z_6 x1 x2 x3 x4 mm nn z_5) (Eq.symm ez_6)).trans ((congrArg (f_X3_real_z_7 x1 x2 x3 x4 mm nn z_5 z_6) (Eq.symm ez_7)).trans ((if_neg c_8).trans ((if_neg c_9).trans (rfl))))))))
        · refine lv_lload hx hb dX3_real_114 (lv_at hl 0 rfl) ?_
          refine lv_lconst (v := (1 : Int64)) hx hb dX3_real_116 (by decide) ?_
          refine lv_land hx hb dX3_real_117 ?_
          refine lv_lconst (v := (1 : Int64)) hx hb dX3_real_118 (by decide) ?_
          refine mb_lc_ne (tgt := 129) hx hb dX3_real_119 dX3_real_120 (by decide) (fun c_10 => ?_) (fun c_10 => ?_)
          · exact K_129 z_7 nn ls  (lv_sub hl [4, 5, 6, 7, 0, 8] rfl) (hz.trans ((if_pos c_4).trans ((congrArg (f_X3_real_z_5 x1 x2 x3 x4 mm nn) (Eq.symm ez_5)).trans ((congrArg (f_X3_real_z_6 x1 x2 x3 x4 mm nn z_5) (Eq.symm ez_6)).trans ((congrArg (f_X3_real_z_7 x1 x2 x3 x4 mm nn z_5 z_6) (Eq.symm ez_7)).trans ((if_neg c_8).trans ((if_pos c_9).trans ((if_neg c_10).trans (rfl)))))))))
          · refine lv_lload hx hb dX3_real_123 (lv_at hl 0 rfl) ?_
            refine lv_lconst (v := (1 : Int64)) hx hb dX3_real_125 (by decide) ?_
            refine lv_ladd hx hb dX3_real_126 ?_
            refine lv_lstore (lv' := [(6, .long (z_7 + (1 : Int64))), (12, .long z_6), (10, .long z_5), (9, .int (nn - x2)), (0, .long x1), (2, .int x2), (3, .int x3), (4, .long x4), (8, .int nn)]) hx hb dX3_real_127 hl (by decide) rfl (fun ls hl => ?_)
            exact K_129 (z_7 + (1 : Int64)) nn ls  (lv_sub hl [4, 5, 6, 7, 0, 8] rfl) (hz.trans ((if_pos c_4).trans ((congrArg (f_X3_real_z_5 x1 x2 x3 x4 mm nn) (Eq.symm ez_5)).trans ((congrArg (f_X3_real_z_6 x1 x2 x3 x4 mm nn z_5) (Eq.symm ez_6)).trans ((congrArg (f_X3_real_z_7 x1 x2 x3 x4 mm nn z_5 z_6) (Eq.symm ez_7)).trans ((if_neg c_8).trans ((if_pos c_9).trans ((if_pos c_10).trans (rfl)))))))))
    · refine lv_lload hx hb dX3_real_54 (lv_at hl 4 rfl) ?_
      refine lv_iload_n hx hb dX3_real_56 rfl (lv_at hl 1 rfl) ?_
      refine lv_iload hx hb dX3_real_57 (lv_at hl 5 rfl) ?_
      refine lv_isub hx hb dX3_real_59 ?_
      refine lv_lshl hx hb dX3_real_60 rfl ?_
      refine lv_lstore (lv' := [(6, .long (mm <<< ((x2 - nn).toInt64 &&& 63))), (0, .long x1), (2, .int x2), (3, .int x3), (4, .long x4), (8, .int nn)]) hx hb dX3_real_61 hl (by decide) rfl (fun ls hl => ?_)
      refine lv_goto (tgt := 147) hx hb dX3_real_63 (by decide) ?_
      exact K_147 (mm <<< ((x2 - nn).toInt64 &&& 63)) nn ls  (lv_sub hl [1, 2, 3, 4, 0, 5] rfl) (hz.trans ((if_neg c_4).trans (rfl)))
  have K_29 : ∀ (k : Nat) (mm : Int64) (nn : Int32) (rr : Int64) (ls : Array Slot) (hi : mb_sh k rr), lv_has ls 14 [(0, .long x1), (2, .int x2), (3, .int x3), (4, .long x4), (6, .long mm), (8, .int nn), (9, .long rr)] → f_X3_real x1 x2 x3 x4 = f_X3_real_29 k x1 x2 x3 x4 mm nn rr → W p l e (headSpec wsX3_real ({ frames := 0, cells := 0, slots := 0, locals := 0 })).room s m ([.long x1, .int x2, .int x3, .long x4] : List Value).toArray below meth c s.heap [] 0 0 (MQ below (vp_Sl (fun r => r = f_X3_real x1 x2 x3 x4)) ([.long x1, .int x2, .int x3, .long x4] : List Value).toArray s 0 0 (fun _ => False)) (F0 m 29 ls []) := by
    intro k
    induction k with
    | zero =>
      intro mm nn rr ls hi
      exact absurd hi.1 (by omega)
    | succ k ih =>
      intro mm nn rr ls hi hl hz
      refine lv_lload hx hb dX3_real_29 (lv_at hl 6 rfl) ?_
      refine lv_lconst (v := (0 : Int64)) hx hb dX3_real_31 (by decide) ?_
      refine mb_lc_eq (tgt := 48) hx hb dX3_real_32 dX3_real_33 (by decide) (fun c_11 => ?_) (fun c_11 => ?_)
      · exact K_48 mm nn ls  (lv_sub hl [0, 1, 2, 3, 4, 5] rfl) (hz.trans ((if_pos c_11).trans (rfl)))
      · refine lv_iinc (v := (nn + (1 : Int32))) (lv' := [(8, .int (nn + (1 : Int32))), (0, .long x1), (2, .int x2), (3, .int x3), (4, .long x4), (6, .long mm), (9, .long rr)]) hx hb dX3_real_36 hl (k := 5) rfl rfl (by decide) rfl (fun ls hl => ?_)
        refine lv_lload hx hb dX3_real_39 (lv_at hl 6 rfl) ?_
        refine lv_iconst (v := (1 : Int32)) hx hb dX3_real_41 (by decide) ?_
        refine lv_lushr hx hb dX3_real_42 rfl ?_
        refine lv_lstore (lv' := [(9, .long ((rr.toUInt64 >>> ((1 : Int32).toInt64.toUInt64 &&& Int64.toUInt64 63)).toInt64)), (8, .int (nn + (1 : Int32))), (0, .long x1), (2, .int x2), (3, .int x3), (4, .long x4), (6, .long mm)]) hx hb dX3_real_43 hl (by decide) rfl (fun ls hl => ?_)
        refine lv_goto (tgt := 29) hx hb dX3_real_45 (by decide) ?_
        exact ih mm (nn + (1 : Int32)) ((rr.toUInt64 >>> ((1 : Int32).toInt64.toUInt64 &&& Int64.toUInt64 63)).toInt64) ls (mb_sh_step hi c_11) (lv_sub hl [2, 3, 4, 5, 6, 1, 0] rfl) (hz.trans ((if_neg c_11).trans (rfl)))
  have K_20 : ∀ (mm : Int64) (ls : Array Slot) , lv_has ls 14 [(0, .long x1), (2, .int x2), (3, .int x3), (4, .long x4)] → f_X3_real x1 x2 x3 x4 = f_X3_real_20 x1 x2 x3 x4 mm → W p l e (headSpec wsX3_real ({ frames := 0, cells := 0, slots := 0, locals := 0 })).room s m ([.long x1, .int x2, .int x3, .long x4] : List Value).toArray below meth c s.heap [] 0 0 (MQ below (vp_Sl (fun r => r = f_X3_real x1 x2 x3 x4)) ([.long x1, .int x2, .int x3, .long x4] : List Value).toArray s 0 0 (fun _ => False)) (F0 m 20 ls [.long mm]) := by
    intro mm ls  hl hz
    refine lv_lstore (lv' := [(6, .long mm), (0, .long x1), (2, .int x2), (3, .int x3), (4, .long x4)]) hx hb dX3_real_20 hl (by decide) rfl (fun ls hl => ?_)
    refine lv_iconst (v := (0 : Int32)) hx hb dX3_real_22 (by decide) ?_
    refine lv_istore (lv' := [(8, .int (0 : Int32)), (6, .long mm), (0, .long x1), (2, .int x2), (3, .int x3), (4, .long x4)]) hx hb dX3_real_23 hl (by decide) rfl (fun ls hl => ?_)
    refine lv_lload hx hb dX3_real_25 (lv_at hl 1 rfl) ?_
    refine lv_lstore (lv' := [(9, .long mm), (8, .int (0 : Int32)), (6, .long mm), (0, .long x1), (2, .int x2), (3, .int x3), (4, .long x4)]) hx hb dX3_real_27 hl (by decide) rfl (fun ls hl => ?_)
    exact K_29 65 mm (0 : Int32) mm ls (mb_sh_in _) (lv_sub hl [3, 4, 5, 6, 2, 1, 0] rfl) (hz.trans (rfl))
  have hl := lv_entry ([.long x1, .int x2, .int x3, .long x4]) (n := 14) (Nat.le_of_ble_eq_true rfl)
  rw [lg_entry_eq]
  generalize (lg_sl ([.long x1, .int x2, .int x3, .long x4]) ++ List.replicate (14 - (lg_sl ([.long x1, .int x2, .int x3, .long x4])).length) Slot.unset).toArray = ls at hl ⊢
  have hl : lv_has ls 14 [(0, .long x1), (2, .int x2), (3, .int x3), (4, .long x4)] := hl
  refine lv_lload_n hx hb dX3_real_0 rfl (lv_at hl 0 rfl) ?_
  refine lv_lconst (v := (0 : Int64)) hx hb dX3_real_1 (by decide) ?_
  refine mb_lc_ne (tgt := 8) hx hb dX3_real_2 dX3_real_3 (by decide) (fun c_12 => ?_) (fun c_12 => ?_)
  · refine lv_lload_n hx hb dX3_real_8 rfl (lv_at hl 0 rfl) ?_
    refine lv_lconst (v := (0 : Int64)) hx hb dX3_real_9 (by decide) ?_
    refine mb_lc_ge (tgt := 19) hx hb dX3_real_10 dX3_real_11 (by decide) (fun c_13 => ?_) (fun c_13 => ?_)
    · refine lv_lload_n hx hb dX3_real_19 rfl (lv_at hl 0 rfl) ?_
      exact K_20 x1 ls  (lv_sub hl [0, 1, 2, 3] rfl) ((if_neg c_12).trans ((if_pos c_13).trans (rfl)))
    · refine lv_lload_n hx hb dX3_real_14 rfl (lv_at hl 0 rfl) ?_
      refine lv_lneg hx hb dX3_real_15 ?_
      refine lv_goto (tgt := 20) hx hb dX3_real_16 (by decide) ?_
      exact K_20 (-x1) ls  (lv_sub hl [0, 1, 2, 3] rfl) ((if_neg c_12).trans ((if_neg c_13).trans (rfl)))
  · refine lv_lconst (v := (0 : Int64)) hx hb dX3_real_6 (by decide) ?_
    exact W.lret (v := (0 : Int64)) hx hb hr (fun t ht hW => ⟨(0 : Int64), rfl, Eq.symm ((if_pos c_12).trans (rfl)), ht⟩) (fun q h => by cases h) dX3_real_7
def f_X3_wide_112 (x1 : Int64) (sg : Int64) (mm : Int64) (bb : Int32) : Int64 := ((sg ||| (((bb + (1023 : Int32)).toInt64) <<< ((52 : Int32).toInt64 &&& 63))) ||| ((mm &&& (8388607 : Int64)) <<< ((29 : Int32).toInt64 &&& 63)))
def f_X3_wide_89 : Nat → Int64 → Int64 → Int64 → Int32 → Int64
  | 0, _, _, _, _ => 0
  | k + 1, x1, sg, mm, bb => if (mm &&& (8388608 : Int64)) = (0 : Int64) then f_X3_wide_89 k x1 sg (mm <<< ((1 : Int32).toInt64 &&& 63)) (bb + (-1 : Int32))
  else f_X3_wide_112 x1 sg mm bb
def f_X3_wide_73 (x1 : Int64) (sg : Int64) (ee : Int32) (mm : Int64) : Int64 := if ee = 0 then f_X3_wide_89 24 x1 sg mm (-126 : Int32)
  else f_X3_wide_112 x1 sg mm (ee - (127 : Int32))
def f_X3_wide_13 (x1 : Int64) (sg : Int64) : Int64 := if (((x1 >>> ((23 : Int32).toInt64 &&& 63)).toInt32) &&& (255 : Int32)) = (255 : Int32) then (if (x1 &&& (8388607 : Int64)) = (0 : Int64) then (sg ||| (9218868437227405312 : Int64))
    else (9221120237041090560 : Int64))
  else if (((x1 >>> ((23 : Int32).toInt64 &&& 63)).toInt32) &&& (255 : Int32)) = 0 then (if (x1 &&& (8388607 : Int64)) = (0 : Int64) then sg
    else f_X3_wide_73 x1 sg (((x1 >>> ((23 : Int32).toInt64 &&& 63)).toInt32) &&& (255 : Int32)) (x1 &&& (8388607 : Int64)))
  else f_X3_wide_73 x1 sg (((x1 >>> ((23 : Int32).toInt64 &&& 63)).toInt32) &&& (255 : Int32)) (x1 &&& (8388607 : Int64))
def f_X3_wide (x1 : Int64) : Int64 := if (0 : Int64) ≤ x1 then f_X3_wide_13 x1 (0 : Int64)
  else f_X3_wide_13 x1 (-9223372036854775808 : Int64)
set_option maxHeartbeats 4000000 in
set_option maxRecDepth 100000 in
theorem c_X3_wide (l : Launch) (x1 : Int64) : Met l yX3_wide wsX3_wide ({ frames := 0, cells := 0, slots := 0, locals := 0 }) (va_Pc [.long x1] (fun _ => True)) (vp_Sl (fun r => r = f_X3_wide x1)) 0 0 (fun _ => False) := by
  refine Met.ofW (cc := cX3_wide) (maxL := 8) (ret := (some .long)) (by decide) rfl ?_
  intro p e s m args below meth c s₁ B hml hv
  obtain ⟨rfl, -⟩ := hv
  have hx := B.exec
  have hb := B.bytes
  have hr := B.returns
  have hts := atoms_spec (ws := wsX3_wide) B.pre
  have hown : s.vm.findClass RX3 = some m.cls := findClass_of_methodNamed B.named
  have hlocks := B.notSynchronized
  have K_112 : ∀ (sg : Int64) (mm : Int64) (bb : Int32) (ls : Array Slot) , lv_has ls 8 [(2, .long sg), (5, .long mm), (7, .int bb)] → f_X3_wide x1 = f_X3_wide_112 x1 sg mm bb → W p l e (headSpec wsX3_wide ({ frames := 0, cells := 0, slots := 0, locals := 0 })).room s m ([.long x1] : List Value).toArray below meth c s.heap [] 0 0 (MQ below (vp_Sl (fun r => r = f_X3_wide x1)) ([.long x1] : List Value).toArray s 0 0 (fun _ => False)) (F0 m 112 ls []) := by
    intro sg mm bb ls  hl hz
    refine lv_lload_n hx hb dX3_wide_112 rfl (lv_at hl 0 rfl) ?_
    refine lv_iload hx hb dX3_wide_113 (lv_at hl 2 rfl) ?_
    refine lv_sipush (v := (1023 : Int32)) hx hb dX3_wide_115 (by decide) ?_
    refine lv_iadd hx hb dX3_wide_118 ?_
    refine lv_i2l hx hb dX3_wide_119 rfl ?_
    refine lv_bipush (v := (52 : Int32)) hx hb dX3_wide_120 (by decide) ?_
    refine lv_lshl hx hb dX3_wide_122 rfl ?_
    refine lv_lor hx hb dX3_wide_123 ?_
    refine lv_lload hx hb dX3_wide_124 (lv_at hl 1 rfl) ?_
    refine lv_ldc2 (v := (8388607 : Int64)) hx hb hown (hts (.constantLong RX3 120 (8388607)) (by decide +kernel)) dX3_wide_126 ?_
    refine lv_land hx hb dX3_wide_129 ?_
    refine lv_bipush (v := (29 : Int32)) hx hb dX3_wide_130 (by decide) ?_
    refine lv_lshl hx hb dX3_wide_132 rfl ?_
    refine lv_lor hx hb dX3_wide_133 ?_
    exact W.lret (v := ((sg ||| (((bb + (1023 : Int32)).toInt64) <<< ((52 : Int32).toInt64 &&& 63))) ||| ((mm &&& (8388607 : Int64)) <<< ((29 : Int32).toInt64 &&& 63)))) hx hb hr (fun t ht hW => ⟨((sg ||| (((bb + (1023 : Int32)).toInt64) <<< ((52 : Int32).toInt64 &&& 63))) ||| ((mm &&& (8388607 : Int64)) <<< ((29 : Int32).toInt64 &&& 63))), rfl, Eq.symm (hz.trans (rfl)), ht⟩) (fun q h => by cases h) dX3_wide_134
  have K_89 : ∀ (k : Nat) (sg : Int64) (mm : Int64) (bb : Int32) (ls : Array Slot) (hi : mb_wd k mm), lv_has ls 8 [(2, .long sg), (5, .long mm), (7, .int bb)] → f_X3_wide x1 = f_X3_wide_89 k x1 sg mm bb → W p l e (headSpec wsX3_wide ({ frames := 0, cells := 0, slots := 0, locals := 0 })).room s m ([.long x1] : List Value).toArray below meth c s.heap [] 0 0 (MQ below (vp_Sl (fun r => r = f_X3_wide x1)) ([.long x1] : List Value).toArray s 0 0 (fun _ => False)) (F0 m 89 ls []) := by
    intro k
    induction k with
    | zero =>
      intro sg mm bb ls hi
      exact absurd hi.1 (by omega)
    | succ k ih =>
      intro sg mm bb ls hi hl hz
      refine lv_lload hx hb dX3_wide_89 (lv_at hl 1 rfl) ?_
      refine lv_ldc2 (v := (8388608 : Int64)) hx hb hown (hts (.constantLong RX3 122 (8388608)) (by decide +kernel)) dX3_wide_91 ?_
      refine lv_land hx hb dX3_wide_94 ?_
      refine lv_lconst (v := (0 : Int64)) hx hb dX3_wide_95 (by decide) ?_
      refine mb_lc_ne (tgt := 112) hx hb dX3_wide_96 dX3_wide_97 (by decide) (fun c_1 => ?_) (fun c_1 => ?_)
      · exact K_112 sg mm bb ls  (lv_sub hl [0, 1, 2] rfl) (hz.trans ((if_neg c_1).trans (rfl)))
      · refine lv_lload hx hb dX3_wide_100 (lv_at hl 1 rfl) ?_
        refine lv_iconst (v := (1 : Int32)) hx hb dX3_wide_102 (by decide) ?_
        refine lv_lshl hx hb dX3_wide_103 rfl ?_
        refine lv_lstore (lv' := [(5, .long (mm <<< ((1 : Int32).toInt64 &&& 63))), (2, .long sg), (7, .int bb)]) hx hb dX3_wide_104 hl (by decide) rfl (fun ls hl => ?_)
        refine lv_iinc (v := (bb + (-1 : Int32))) (lv' := [(7, .int (bb + (-1 : Int32))), (5, .long (mm <<< ((1 : Int32).toInt64 &&& 63))), (2, .long sg)]) hx hb dX3_wide_106 hl (k := 2) rfl rfl (by decide) rfl (fun ls hl => ?_)
        refine lv_goto (tgt := 89) hx hb dX3_wide_109 (by decide) ?_
        exact ih sg (mm <<< ((1 : Int32).toInt64 &&& 63)) (bb + (-1 : Int32)) ls (mb_wd_step hi c_1) (lv_sub hl [2, 1, 0] rfl) (hz.trans ((if_pos c_1).trans (rfl)))
  have K_73 : ∀ (sg : Int64) (ee : Int32) (mm : Int64) (ls : Array Slot) (h7 : mm.toBitVec.toNat < 8388608) (h8 : ¬ ee = 0 ∨ ¬ mm = 0), lv_has ls 8 [(2, .long sg), (4, .int ee), (5, .long mm)] → f_X3_wide x1 = f_X3_wide_73 x1 sg ee mm → W p l e (headSpec wsX3_wide ({ frames := 0, cells := 0, slots := 0, locals := 0 })).room s m ([.long x1] : List Value).toArray below meth c s.heap [] 0 0 (MQ below (vp_Sl (fun r => r = f_X3_wide x1)) ([.long x1] : List Value).toArray s 0 0 (fun _ => False)) (F0 m 73 ls []) := by
    intro sg ee mm ls h7 h8 hl hz
    refine lv_iload hx hb dX3_wide_73 (lv_at hl 1 rfl) ?_
    refine lv_bipush (v := (127 : Int32)) hx hb dX3_wide_75 (by decide) ?_
    refine lv_isub hx hb dX3_wide_77 ?_
    refine lv_istore (lv' := [(7, .int (ee - (127 : Int32))), (2, .long sg), (4, .int ee), (5, .long mm)]) hx hb dX3_wide_78 hl (by decide) rfl (fun ls hl => ?_)
    refine lv_iload hx hb dX3_wide_80 (lv_at hl 2 rfl) ?_
    refine lv_if_ne (tgt := 112) hx hb dX3_wide_82 (by decide) (fun c_2 => ?_) (fun c_2 => ?_)
    · exact K_112 sg mm (ee - (127 : Int32)) ls  (lv_sub hl [1, 3, 0] rfl) (hz.trans ((if_neg c_2).trans (rfl)))
    · refine lv_bipush (v := (-126 : Int32)) hx hb dX3_wide_85 (by decide) ?_
      refine lv_istore (lv' := [(7, .int (-126 : Int32)), (2, .long sg), (4, .int ee), (5, .long mm)]) hx hb dX3_wide_87 hl (by decide) rfl (fun ls hl => ?_)
      exact K_89 24 sg mm (-126 : Int32) ls (mb_wd_in h7 (Or.resolve_left h8 (fun q => q c_2))) (lv_sub hl [1, 3, 0] rfl) (hz.trans ((if_pos c_2).trans (rfl)))
  have K_13 : ∀ (sg : Int64) (ls : Array Slot) , lv_has ls 8 [(0, .long x1)] → f_X3_wide x1 = f_X3_wide_13 x1 sg → W p l e (headSpec wsX3_wide ({ frames := 0, cells := 0, slots := 0, locals := 0 })).room s m ([.long x1] : List Value).toArray below meth c s.heap [] 0 0 (MQ below (vp_Sl (fun r => r = f_X3_wide x1)) ([.long x1] : List Value).toArray s 0 0 (fun _ => False)) (F0 m 13 ls [.long sg]) := by
    intro sg ls  hl hz
    refine lv_lstore_n (lv' := [(2, .long sg), (0, .long x1)]) hx hb dX3_wide_13 rfl hl (by decide) rfl (fun ls hl => ?_)
    refine lv_lload_n hx hb dX3_wide_14 rfl (lv_at hl 1 rfl) ?_
    refine lv_bipush (v := (23 : Int32)) hx hb dX3_wide_15 (by decide) ?_
    refine lv_lshr hx hb dX3_wide_17 rfl ?_
    refine lv_l2i hx hb dX3_wide_18 rfl ?_
    refine lv_sipush (v := (255 : Int32)) hx hb dX3_wide_19 (by decide) ?_
    refine lv_iand hx hb dX3_wide_22 ?_
    refine lv_istore (lv' := [(4, .int (((x1 >>> ((23 : Int32).toInt64 &&& 63)).toInt32) &&& (255 : Int32))), (2, .long sg), (0, .long x1)]) hx hb dX3_wide_23 hl (by decide) rfl (fun ls hl => ?_)
    refine lv_lload_n hx hb dX3_wide_25 rfl (lv_at hl 2 rfl) ?_
    refine lv_ldc2 (v := (8388607 : Int64)) hx hb hown (hts (.constantLong RX3 120 (8388607)) (by decide +kernel)) dX3_wide_26 ?_
    refine lv_land hx hb dX3_wide_29 ?_
    refine lv_lstore (lv' := [(5, .long (x1 &&& (8388607 : Int64))), (4, .int (((x1 >>> ((23 : Int32).toInt64 &&& 63)).toInt32) &&& (255 : Int32))), (2, .long sg), (0, .long x1)]) hx hb dX3_wide_30 hl (by decide) rfl (fun ls hl => ?_)
    refine lv_iload hx hb dX3_wide_32 (lv_at hl 1 rfl) ?_
    refine lv_sipush (v := (255 : Int32)) hx hb dX3_wide_34 (by decide) ?_
    refine lv_icmp_ne (tgt := 59) hx hb dX3_wide_37 (by decide) (fun c_3 => ?_) (fun c_3 => ?_)
    · refine lv_iload hx hb dX3_wide_59 (lv_at hl 1 rfl) ?_
      refine lv_if_ne (tgt := 73) hx hb dX3_wide_61 (by decide) (fun c_4 => ?_) (fun c_4 => ?_)
      · exact K_73 sg (((x1 >>> ((23 : Int32).toInt64 &&& 63)).toInt32) &&& (255 : Int32)) (x1 &&& (8388607 : Int64)) ls (mb_frac _) (Or.inl c_4) (lv_sub hl [2, 1, 0] rfl) (hz.trans ((if_neg c_3).trans ((if_neg c_4).trans (rfl))))
      · refine lv_lload hx hb dX3_wide_64 (lv_at hl 0 rfl) ?_
        refine lv_lconst (v := (0 : Int64)) hx hb dX3_wide_66 (by decide) ?_
        refine mb_lc_ne (tgt := 73) hx hb dX3_wide_67 dX3_wide_68 (by decide) (fun c_5 => ?_) (fun c_5 => ?_)
        · exact K_73 sg (((x1 >>> ((23 : Int32).toInt64 &&& 63)).toInt32) &&& (255 : Int32)) (x1 &&& (8388607 : Int64)) ls (mb_frac _) (Or.inr c_5) (lv_sub hl [2, 1, 0] rfl) (hz.trans ((if_neg c_3).trans ((if_pos c_4).trans ((if_neg c_5).trans (rfl)))))
        · refine lv_lload_n hx hb dX3_wide_71 rfl (lv_at hl 2 rfl) ?_
          exact W.lret (v := sg) hx hb hr (fun t ht hW => ⟨sg, rfl, Eq.symm (hz.trans ((if_neg c_3).trans ((if_pos c_4).trans ((if_pos c_5).trans (rfl))))), ht⟩) (fun q h => by cases h) dX3_wide_72
    · refine lv_lload hx hb dX3_wide_40 (lv_at hl 0 rfl) ?_
      refine lv_lconst (v := (0 : Int64)) hx hb dX3_wide_42 (by decide) ?_
      refine mb_lc_ne (tgt := 55) hx hb dX3_wide_43 dX3_wide_44 (by decide) (fun c_6 => ?_) (fun c_6 => ?_)
      · refine lv_ldc2 (v := (9221120237041090560 : Int64)) hx hb hown (hts (.constantLong RX3 116 (9221120237041090560)) (by decide +kernel)) dX3_wide_55 ?_
        exact W.lret (v := (9221120237041090560 : Int64)) hx hb hr (fun t ht hW => ⟨(9221120237041090560 : Int64), rfl, Eq.symm (hz.trans ((if_pos c_3).trans ((if_neg c_6).trans (rfl)))), ht⟩) (fun q h => by cases h) dX3_wide_58
      · refine lv_lload_n hx hb dX3_wide_47 rfl (lv_at hl 2 rfl) ?_
        refine lv_ldc2 (v := (9218868437227405312 : Int64)) hx hb hown (hts (.constantLong RX3 114 (9218868437227405312)) (by decide +kernel)) dX3_wide_48 ?_
        refine lv_lor hx hb dX3_wide_51 ?_
        refine lv_goto (tgt := 58) hx hb dX3_wide_52 (by decide) ?_
        exact W.lret (v := (sg ||| (9218868437227405312 : Int64))) hx hb hr (fun t ht hW => ⟨(sg ||| (9218868437227405312 : Int64)), rfl, Eq.symm (hz.trans ((if_pos c_3).trans ((if_pos c_6).trans (rfl)))), ht⟩) (fun q h => by cases h) dX3_wide_58
  have hl := lv_entry ([.long x1]) (n := 8) (Nat.le_of_ble_eq_true rfl)
  rw [lg_entry_eq]
  generalize (lg_sl ([.long x1]) ++ List.replicate (8 - (lg_sl ([.long x1])).length) Slot.unset).toArray = ls at hl ⊢
  have hl : lv_has ls 8 [(0, .long x1)] := hl
  refine lv_lload_n hx hb dX3_wide_0 rfl (lv_at hl 0 rfl) ?_
  refine lv_lconst (v := (0 : Int64)) hx hb dX3_wide_1 (by decide) ?_
  refine mb_lc_ge (tgt := 12) hx hb dX3_wide_2 dX3_wide_3 (by decide) (fun c_7 => ?_) (fun c_7 => ?_)
  · refine lv_lconst (v := (0 : Int64)) hx hb dX3_wide_12 (by decide) ?_
    exact K_13 (0 : Int64) ls  (lv_sub hl [0] rfl) ((if_pos c_7).trans (rfl))
  · refine lv_ldc2 (v := (-9223372036854775808 : Int64)) hx hb hown (hts (.constantLong RX3 118 (-9223372036854775808)) (by decide +kernel)) dX3_wide_6 ?_
    refine lv_goto (tgt := 13) hx hb dX3_wide_9 (by decide) ?_
    exact K_13 (-9223372036854775808 : Int64) ls  (lv_sub hl [0] rfl) ((if_neg c_7).trans (rfl))

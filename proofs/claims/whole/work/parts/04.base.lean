/-! the words that all contracts share -/
abbrev mb_tys (cyI cyZ cyJ : ClassId) : List (ClassId × FieldType) := [(cyI, .int), (cyZ, .boolean), (cyJ, .long)]
/-- a value that is a boolean -/
def mb_B (v : Int32) : Prop := narrow .boolean (.int v) = .int v
theorem mb_B_ite {c : Prop} [Decidable c] {a b : Int32} (ha : mb_B a) (hb : mb_B b) : mb_B (if c then a else b) := by
  split
  · exact ha
  · exact hb
theorem mb_B0 : mb_B 0 := rfl
theorem mb_B1 : mb_B 1 := rfl
theorem mb_lt2 (c : Prop) [Decidable c] : (if c then 0 else 1) < 2 := by split <;> decide
theorem lg_eq (x y : Int64) : lg_cmp x y = 0 ↔ x = y := by
  unfold lg_cmp
  by_cases h1 : y < x
  · simp only [h1, if_true]
    exact ⟨fun h => absurd h (by decide), fun h => by subst h; exact absurd h1 (Int64.lt_irrefl)⟩
  · simp only [h1, if_false]
    by_cases h2 : x = y
    · simp [h2]
    · simp only [h2, if_false]
      exact ⟨fun h => absurd h (by decide), fun h => absurd h (by simp)⟩
theorem lg_gt (x y : Int64) : 0 < lg_cmp x y ↔ y < x := by
  unfold lg_cmp
  by_cases h1 : y < x
  · simp only [h1, if_true]
    exact ⟨fun _ => trivial, fun _ => by decide⟩
  · simp only [h1, if_false]
    by_cases h2 : x = y
    · simp [h2]
    · simp only [h2, if_false]
      exact ⟨fun h => absurd h (by decide), fun h => absurd h (by simp)⟩
theorem lg_lt (x y : Int64) : lg_cmp x y < 0 ↔ x < y := by
  unfold lg_cmp
  by_cases h1 : y < x
  · simp only [h1, if_true]
    refine ⟨fun h => absurd h (by decide), fun h => ?_⟩
    rw [Int64.lt_iff_toInt_lt] at h h1
    omega
  · simp only [h1, if_false]
    by_cases h2 : x = y
    · subst h2
      simp
    · simp only [h2, if_false]
      refine ⟨fun _ => ?_, fun _ => by decide⟩
      rw [Int64.lt_iff_toInt_lt] at h1 ⊢
      have h3 : x.toInt ≠ y.toInt := fun h => h2 (Int64.toInt_inj.mp h)
      omega
theorem lg_ge (x y : Int64) : 0 ≤ lg_cmp x y ↔ y ≤ x := by
  have h := lg_lt x y
  rw [Int64.le_iff_toInt_le]
  rw [Int64.lt_iff_toInt_lt] at h
  rw [Int32.lt_iff_toInt_lt] at h
  rw [Int32.le_iff_toInt_le]
  have e0 : (0 : Int32).toInt = 0 := rfl
  rw [e0] at h ⊢
  constructor
  · intro g
    have : ¬ (x.toInt < y.toInt) := fun q => by have := h.mpr q; omega
    omega
  · intro g
    have : ¬ ((lg_cmp x y).toInt < 0) := fun q => by have := h.mp q; omega
    omega
theorem lg_le (x y : Int64) : lg_cmp x y ≤ 0 ↔ x ≤ y := by
  have h := lg_gt x y
  rw [Int64.le_iff_toInt_le]
  rw [Int64.lt_iff_toInt_lt] at h
  rw [Int32.lt_iff_toInt_lt] at h
  rw [Int32.le_iff_toInt_le]
  have e0 : (0 : Int32).toInt = 0 := rfl
  rw [e0] at h ⊢
  constructor
  · intro g
    have : ¬ (y.toInt < x.toInt) := fun q => by have := h.mpr q; omega
    omega
  · intro g
    have : ¬ (0 < (lg_cmp x y).toInt) := fun q => by have := h.mp q; omega
    omega
section MBL
variable {p : Program} {l : Launch} {e : Env} {R : Room} {s : State} {m : MethodId} {args : Array Value} {below : List Frame} {meth : Method} {c : Code} {H : Heap} {locs : List Loc} {cells slots : Nat} {Q : State → Prop} {cc : ByteArray} {pc : Nat} {ls : Array Slot} {rest : List Value}
theorem mb_lc_eq (hx : p.tables.exec = Jvm.exec) (hb : c.code = cc) {x y : Int64} {off : Int} {tgt : Nat} (h1 : decode cc pc = .ok (.lcmp, 1)) (h2 : decode cc (pc + 1) = .ok (.ifCond .eq off, 3)) (ht : ((pc + 1 : Nat) : Int) + off = (tgt : Int)) (kt : x = y → W p l e R s m args below meth c H locs cells slots Q (F0 m tgt ls rest)) (kf : ¬ x = y → W p l e R s m args below meth c H locs cells slots Q (F0 m (pc + 1 + 3) ls rest)) : W p l e R s m args below meth c H locs cells slots Q (F0 m pc ls (.long y :: .long x :: rest)) :=
  W.lcmp hx hb h1 (lv_if_eq hx hb h2 ht (fun c => kt ((lg_eq x y).mp c)) (fun c => kf (fun h => c ((lg_eq x y).mpr h))))
theorem mb_lc_ne (hx : p.tables.exec = Jvm.exec) (hb : c.code = cc) {x y : Int64} {off : Int} {tgt : Nat} (h1 : decode cc pc = .ok (.lcmp, 1)) (h2 : decode cc (pc + 1) = .ok (.ifCond .ne off, 3)) (ht : ((pc + 1 : Nat) : Int) + off = (tgt : Int)) (kt : ¬ x = y → W p l e R s m args below meth c H locs cells slots Q (F0 m tgt ls rest)) (kf : x = y → W p l e R s m args below meth c H locs cells slots Q (F0 m (pc + 1 + 3) ls rest)) : W p l e R s m args below meth c H locs cells slots Q (F0 m pc ls (.long y :: .long x :: rest)) :=
  W.lcmp hx hb h1 (lv_if_ne hx hb h2 ht (fun c => kt (fun h => c ((lg_eq x y).mpr h))) (fun c => kf ((lg_eq x y).mp c)))
theorem mb_lc_lt (hx : p.tables.exec = Jvm.exec) (hb : c.code = cc) {x y : Int64} {off : Int} {tgt : Nat} (h1 : decode cc pc = .ok (.lcmp, 1)) (h2 : decode cc (pc + 1) = .ok (.ifCond .lt off, 3)) (ht : ((pc + 1 : Nat) : Int) + off = (tgt : Int)) (kt : x < y → W p l e R s m args below meth c H locs cells slots Q (F0 m tgt ls rest)) (kf : ¬ x < y → W p l e R s m args below meth c H locs cells slots Q (F0 m (pc + 1 + 3) ls rest)) : W p l e R s m args below meth c H locs cells slots Q (F0 m pc ls (.long y :: .long x :: rest)) :=
  W.lcmp hx hb h1 (lv_if_lt hx hb h2 ht (fun c => kt ((lg_lt x y).mp c)) (fun c => kf (fun h => c ((lg_lt x y).mpr h))))
theorem mb_lc_ge (hx : p.tables.exec = Jvm.exec) (hb : c.code = cc) {x y : Int64} {off : Int} {tgt : Nat} (h1 : decode cc pc = .ok (.lcmp, 1)) (h2 : decode cc (pc + 1) = .ok (.ifCond .ge off, 3)) (ht : ((pc + 1 : Nat) : Int) + off = (tgt : Int)) (kt : y ≤ x → W p l e R s m args below meth c H locs cells slots Q (F0 m tgt ls rest)) (kf : ¬ y ≤ x → W p l e R s m args below meth c H locs cells slots Q (F0 m (pc + 1 + 3) ls rest)) : W p l e R s m args below meth c H locs cells slots Q (F0 m pc ls (.long y :: .long x :: rest)) :=
  W.lcmp hx hb h1 (lv_if_ge hx hb h2 ht (fun c => kt ((lg_ge x y).mp c)) (fun c => kf (fun h => c ((lg_ge x y).mpr h))))
theorem mb_lc_gt (hx : p.tables.exec = Jvm.exec) (hb : c.code = cc) {x y : Int64} {off : Int} {tgt : Nat} (h1 : decode cc pc = .ok (.lcmp, 1)) (h2 : decode cc (pc + 1) = .ok (.ifCond .gt off, 3)) (ht : ((pc + 1 : Nat) : Int) + off = (tgt : Int)) (kt : y < x → W p l e R s m args below meth c H locs cells slots Q (F0 m tgt ls rest)) (kf : ¬ y < x → W p l e R s m args below meth c H locs cells slots Q (F0 m (pc + 1 + 3) ls rest)) : W p l e R s m args below meth c H locs cells slots Q (F0 m pc ls (.long y :: .long x :: rest)) :=
  W.lcmp hx hb h1 (lv_if_gt hx hb h2 ht (fun c => kt ((lg_gt x y).mp c)) (fun c => kf (fun h => c ((lg_gt x y).mpr h))))
theorem mb_lc_le (hx : p.tables.exec = Jvm.exec) (hb : c.code = cc) {x y : Int64} {off : Int} {tgt : Nat} (h1 : decode cc pc = .ok (.lcmp, 1)) (h2 : decode cc (pc + 1) = .ok (.ifCond .le off, 3)) (ht : ((pc + 1 : Nat) : Int) + off = (tgt : Int)) (kt : x ≤ y → W p l e R s m args below meth c H locs cells slots Q (F0 m tgt ls rest)) (kf : ¬ x ≤ y → W p l e R s m args below meth c H locs cells slots Q (F0 m (pc + 1 + 3) ls rest)) : W p l e R s m args below meth c H locs cells slots Q (F0 m pc ls (.long y :: .long x :: rest)) :=
  W.lcmp hx hb h1 (lv_if_le hx hb h2 ht (fun c => kt ((lg_le x y).mp c)) (fun c => kf (fun h => c ((lg_le x y).mpr h))))
end MBL
/-! the constants: three tables and the two formats -/
def st_K (j : Nat) : Int32 := ([518, 998, 998, 4094, 4098, 390] : List Int32).getD j 0
def st_L (j : Nat) : Int64 := ([0, 0, -128, -32768, -2147483648, -9223372036854775808, -2147483648, -9223372036854775808] : List Int64).getD j 0
def st_G (j : Nat) : Int64 := ([1, 65535, 127, 32767, 2147483647, 9223372036854775807, 2147483647, 9223372036854775807] : List Int64).getD j 0
abbrev fm_prec (i : Nat) : Int32 := ([24, 53] : List Int32).getD i 0
abbrev fm_low (i : Nat) : Int32 := ([-149, -1074] : List Int32).getD i 0
abbrev fm_inf (i : Nat) : Int64 := ([2139095040, 9218868437227405312] : List Int64).getD i 0
abbrev fm_nan (i : Nat) : Int64 := ([2143289344, 9221120237041090560] : List Int64).getD i 0
abbrev fm_sign (i : Nat) : Int64 := ([-2147483648, -9223372036854775808] : List Int64).getD i 0
abbrev fq_prec : String × String × String × List Int32 := ("ConversionTables$Format", "precision", "I", [24, 53])
abbrev fq_low : String × String × String × List Int32 := ("ConversionTables$Format", "lowestExponent", "I", [-149, -1074])
abbrev fq_all : List (String × String × String × List Int32) := [fq_prec, fq_low]
def mb_G (tK tL tG : Nat) (ad : Nat → Nat) (A : Nat → Prop) (U : State) (H : Heap) : Prop :=
  va_Z "ConversionTables" "ALLOWED_KINDS" "[I" (.ref tK) A U H ∧ va_T .int tK 6 (fun j => .int (st_K j)) A U H ∧
  va_Z "ConversionTables" "LEAST_BITS" "[J" (.ref tL) A U H ∧ va_T .long tL 8 (fun j => .long (st_L j)) A U H ∧
  va_Z "ConversionTables" "GREATEST_BITS" "[J" (.ref tG) A U H ∧ va_T .long tG 8 (fun j => .long (st_G j)) A U H ∧
  va_En "ConversionTables$Format" "LConversionTables$Format;" ["OF_FLOAT", "OF_DOUBLE"] fq_all ad A U H ∧
  va_Ef 2 "ConversionTables$Format" "infinity" "J" (fun i => .long (fm_inf i)) ad A U H ∧ va_Ef 2 "ConversionTables$Format" "nan" "J" (fun i => .long (fm_nan i)) ad A U H ∧ va_Ef 2 "ConversionTables$Format" "sign" "J" (fun i => .long (fm_sign i)) ad A U H
theorem mb_G.moved {tK tL tG : Nat} {ad : Nat → Nat} {A : Nat → Prop} {u U : State} {H : Heap} (hvm : u.vm.Alike U.vm) (h : mb_G tK tL tG ad A u H) : mb_G tK tL tG ad A U H := by
  obtain ⟨h1, h2, h3, h4, h5, h6, h7, h8, h9, h10⟩ := h
  exact ⟨h1.moved hvm, h2.moved hvm, h3.moved hvm, h4.moved hvm, h5.moved hvm, h6.moved hvm, h7.moved hvm, h8.moved hvm, h9.moved hvm, h10.moved hvm⟩
theorem mb_G.kept {tK tL tG : Nat} {ad : Nat → Nat} {A : Nat → Prop} {U : State} {H H1 : Heap} (h : mb_G tK tL tG ad A U H) (hq : ∀ a : Nat, a < H.size → ¬ A a → H1[a]? = H[a]?) : mb_G tK tL tG ad A U H1 := by
  obtain ⟨h1, h2, h3, h4, h5, h6, h7, h8, h9, h10⟩ := h
  exact ⟨h1.kept hq, h2.kept hq, h3.kept hq, h4.kept hq, h5.kept hq, h6.kept hq, h7.kept hq, h8.kept hq, h9.kept hq, h10.kept hq⟩
theorem mb_G.narrow {tK tL tG : Nat} {ad : Nat → Nat} {A B : Nat → Prop} {U : State} {H : Heap} (h : mb_G tK tL tG ad A U H) (hAB : ∀ q, B q → A q) : mb_G tK tL tG ad B U H := by
  obtain ⟨h1, h2, h3, h4, h5, h6, h7, h8, h9, h10⟩ := h
  exact ⟨h1.narrow hAB, h2.narrow hAB, h3.narrow hAB, h4.narrow hAB, h5.narrow hAB, h6.narrow hAB, h7.narrow hAB, h8.narrow hAB, h9.narrow hAB, h10.narrow hAB⟩
/-- what a method that only reads is given: its world, and the constants -/
abbrev mb_no : Nat → Prop := fun _ => False
def mb_R (D : va_G) (tys : List (ClassId × FieldType)) (ws : va_W) (U : State) : Prop := va_P D vwCl ws U.heap ∧ va_K D vwCl tys U
def mb_RG (tK tL tG : Nat) (ad : Nat → Nat) (D : va_G) (tys : List (ClassId × FieldType)) (ws : va_W) (U : State) : Prop := mb_G tK tL tG ad mb_no U U.heap ∧ va_P D vwCl ws U.heap ∧ va_K D vwCl tys U
theorem mb_blindR {av : List Value} {D : va_G} {tys : List (ClassId × FieldType)} {ws : va_W} : FrameBlind (va_Pc av (mb_R D tys ws)) :=
  fun a U g mk q => ⟨q.1, q.2.1, va_K.moved (u := U) (U := U.calling g mk a) (Vm.Alike.refl U.vm) q.2.2⟩
theorem mb_blindG {av : List Value} {tK tL tG : Nat} {ad : Nat → Nat} {D : va_G} {tys : List (ClassId × FieldType)} {ws : va_W} : FrameBlind (va_Pc av (mb_RG tK tL tG ad D tys ws)) :=
  fun a U g mk q => ⟨q.1, mb_G.moved (u := U) (U := U.calling g mk a) (Vm.Alike.refl U.vm) q.2.1, q.2.2.1, va_K.moved (u := U) (U := U.calling g mk a) (Vm.Alike.refl U.vm) q.2.2.2⟩
theorem mb_preT {s : State} {H : Heap} {As : List Value} : PreS s H (va_Pc As (fun _ => True)) As := ⟨fun _ _ _ _ q => q, fun _ _ _ => ⟨rfl, trivial⟩⟩
theorem mb_preS {s : State} {H : Heap} {As : List Value} {D : va_G} {tys : List (ClassId × FieldType)} {ws : va_W} (hK : va_K D vwCl tys s) (hP : va_P D vwCl ws H) : PreS s H (va_Pc As (mb_R D tys ws)) As :=
  ⟨mb_blindR, fun U hU hW => ⟨rfl, by rw [hU]; exact hP, va_K.moved hW.alike hK⟩⟩
theorem mb_preV {s : State} {H : Heap} {As : List Value} {D : va_G} {tys : List (ClassId × FieldType)} {ws : va_W} {b q0 ci : Nat} {q : vw_C} {fs : List Value} (hK : va_K D vwCl tys s) (hP : va_P D vwCl ws H) (hc : vwCl[ci]? = some q) (he : ws[q0]? = some (b, .inr (ci, fs))) : PreV s H q.1 b (va_Pc (.ref b :: As) (mb_R D tys ws)) As :=
  ⟨mb_blindR, va_recv hK hP hc he, fun U hU hW => ⟨rfl, by rw [hU]; exact hP, va_K.moved hW.alike hK⟩⟩
theorem mb_preGS {s : State} {H : Heap} {As : List Value} {tK tL tG : Nat} {ad : Nat → Nat} {D : va_G} {tys : List (ClassId × FieldType)} {ws : va_W} (hG : mb_G tK tL tG ad mb_no s H) (hK : va_K D vwCl tys s) (hP : va_P D vwCl ws H) : PreS s H (va_Pc As (mb_RG tK tL tG ad D tys ws)) As :=
  ⟨mb_blindG, fun U hU hW => ⟨rfl, by rw [hU]; exact hG.moved hW.alike, by rw [hU]; exact hP, va_K.moved hW.alike hK⟩⟩
theorem mb_preGV {s : State} {H : Heap} {As : List Value} {tK tL tG : Nat} {ad : Nat → Nat} {D : va_G} {tys : List (ClassId × FieldType)} {ws : va_W} {b q0 ci : Nat} {q : vw_C} {fs : List Value} (hG : mb_G tK tL tG ad mb_no s H) (hK : va_K D vwCl tys s) (hP : va_P D vwCl ws H) (hc : vwCl[ci]? = some q) (he : ws[q0]? = some (b, .inr (ci, fs))) : PreV s H q.1 b (va_Pc (.ref b :: As) (mb_RG tK tL tG ad D tys ws)) As :=
  ⟨mb_blindG, va_recv hK hP hc he, fun U hU hW => ⟨rfl, by rw [hU]; exact hG.moved hW.alike, by rw [hU]; exact hP, va_K.moved hW.alike hK⟩⟩
theorem mb_preGE {s : State} {H : Heap} {As : List Value} {tK tL tG : Nat} {ad : Nat → Nat} {D : va_G} {tys : List (ClassId × FieldType)} {ws : va_W} {i : Nat} (hG : mb_G tK tL tG ad mb_no s H) (hK : va_K D vwCl tys s) (hP : va_P D vwCl ws H) (hi : i < 2) : PreV s H "ConversionTables$Format" (ad i) (va_Pc (.ref (ad i) :: As) (mb_RG tK tL tG ad D tys ws)) As :=
  ⟨mb_blindG, by
    obtain ⟨cell, h1, h2, h3, -⟩ := (hG.2.2.2.2.2.2.1.1 i hi).2.1
    exact ⟨cell, h1, h2, h3⟩, fun U hU hW => ⟨rfl, by rw [hU]; exact hG.moved hW.alike, by rw [hU]; exact hP, va_K.moved hW.alike hK⟩⟩

section MBC
variable {p : Program} {l : Launch} {e : Env} {R : Room} {s : State} {m : MethodId} {args : Array Value} {below : List Frame} {meth : Method} {c : Code} {H : Heap} {locs : List Loc} {cells slots : Nat} {Q : State → Prop} {pc : Nat} {ls : Array Slot} {rest : List Value}
theorem mb_callSi {F : Int32} {a : Array Value} {st0 : List Value} (hr : CallRun p l e R s m args below meth c H locs cells slots 0 0 (F0 m pc ls st0) rest (vp_Si (fun r => r = F) a) (fun _ => False)) (kk : W p l e R s m args below meth c H locs cells slots Q (F0 m (pc + 3) ls (.int F :: rest))) : W p l e R s m args below meth c H locs cells slots Q (F0 m pc ls st0) :=
  vp_callSi hr (fun r er => by subst er; exact kk)
theorem mb_callSl {F : Int64} {a : Array Value} {st0 : List Value} (hr : CallRun p l e R s m args below meth c H locs cells slots 0 0 (F0 m pc ls st0) rest (vp_Sl (fun r => r = F) a) (fun _ => False)) (kk : W p l e R s m args below meth c H locs cells slots Q (F0 m (pc + 3) ls (.long F :: rest))) : W p l e R s m args below meth c H locs cells slots Q (F0 m pc ls st0) :=
  vp_callSl hr (fun r er => by subst er; exact kk)
variable {st0 : List Value} {a : Array Value} {A0 A1 : Nat → Prop} {H0 : Heap} {mc ms : Nat} {free : Addr → Prop}
theorem mb_calli {S : Type} {F : Int32 × S} {B : S → State → Prop} (hr : va_Run p l e R s m args below meth c H locs cells slots mc ms (F0 m pc ls st0) rest (va_Qi (fun r u => (r, u) = F) B A1 a) free) (hS : va_S A0 H0 H locs) (hA : ∀ q, q < H.size → A1 q → A0 q) (hf : ∀ q, free q → A0 q)
    (kk : ∀ (t : State) (H1 : Heap) (locs1 : List Loc), t.heap = H1 → s.vm.Alike t.vm → B F.2 t → (∀ q : Nat, q < H.size → ¬ A1 q → H1[q]? = H[q]?) → va_S A0 H0 H1 locs1 → W p l e R s m args below meth c H1 locs1 (cells + mc) (slots + ms) Q (F0 m (pc + 3) ls (.int F.1 :: rest))) : W p l e R s m args below meth c H locs cells slots Q (F0 m pc ls st0) :=
  va_calli hr hS hA hf (fun r u t H1 locs1 ht hvm hp hb _ hk hs => by subst hp; exact kk t H1 locs1 ht hvm hb hk hs)
theorem mb_calll {S : Type} {F : Int64 × S} {B : S → State → Prop} (hr : va_Run p l e R s m args below meth c H locs cells slots mc ms (F0 m pc ls st0) rest (va_Ql (fun r u => (r, u) = F) B A1 a) free) (hS : va_S A0 H0 H locs) (hA : ∀ q, q < H.size → A1 q → A0 q) (hf : ∀ q, free q → A0 q)
    (kk : ∀ (t : State) (H1 : Heap) (locs1 : List Loc), t.heap = H1 → s.vm.Alike t.vm → B F.2 t → (∀ q : Nat, q < H.size → ¬ A1 q → H1[q]? = H[q]?) → va_S A0 H0 H1 locs1 → W p l e R s m args below meth c H1 locs1 (cells + mc) (slots + ms) Q (F0 m (pc + 3) ls (.long F.1 :: rest))) : W p l e R s m args below meth c H locs cells slots Q (F0 m pc ls st0) :=
  va_calll hr hS hA hf (fun r u t H1 locs1 ht hvm hp hb _ hk hs => by subst hp; exact kk t H1 locs1 ht hvm hb hk hs)
theorem mb_callv {S : Type} {F : S} {B : S → State → Prop} (hr : va_Run p l e R s m args below meth c H locs cells slots mc ms (F0 m pc ls st0) rest (va_Qv (fun u => u = F) B A1 a) free) (hS : va_S A0 H0 H locs) (hA : ∀ q, q < H.size → A1 q → A0 q) (hf : ∀ q, free q → A0 q)
    (kk : ∀ (t : State) (H1 : Heap) (locs1 : List Loc), t.heap = H1 → s.vm.Alike t.vm → B F t → (∀ q : Nat, q < H.size → ¬ A1 q → H1[q]? = H[q]?) → va_S A0 H0 H1 locs1 → W p l e R s m args below meth c H1 locs1 (cells + mc) (slots + ms) Q (F0 m (pc + 3) ls rest)) : W p l e R s m args below meth c H locs cells slots Q (F0 m pc ls st0) :=
  va_callv hr hS hA hf (fun u t H1 locs1 ht hvm hp hb _ hk hs => by subst hp; exact kk t H1 locs1 ht hvm hb hk hs)
theorem mb_newa {D : va_G} {tys : List (ClassId × FieldType)} {ws : va_W} {A : Nat → Prop} {cc : ByteArray} (hexec : p.tables.exec = Jvm.exec) (hb : c.code = cc) {atype : ArrayType} (harr : (Cond.arrayClass (newarray.typeOf atype)).before args s = true) {ty : FieldType} (hty : newarray.typeOf atype = ty) (hK : va_K D vwCl tys s) (hP : va_P D vwCl ws H) (hD : va_D A ws) (hS : va_S A H0 H locs) (hA : ∀ q, H0.size ≤ q → A q)
    (t0 : Nat) {cy : ClassId} (ht : tys[t0]? = some (cy, ty)) (hne : ∀ C, ty ≠ .object C) {n : Int32} {N' : Nat} {a0 : vp_A} (ha : ∀ cA : ClassId, vp_cell cA a0 = arrV cA N' (fun _ => defaultValue ty)) (hn : ¬ n < 0) (hN : n.toNatClampNeg = N') (hbytes : N' * componentBytes ty ≤ 536870912) (hcells : cells + 1 ≤ R.cells) (hslots : slots + N' ≤ R.slots) (hdg : decode cc pc = .ok (.newarray atype, 2))
    (kk : ∀ (q : Nat) (H1 : Heap), va_P D vwCl (ws ++ [(q, .inl (cy, a0))]) H1 → va_D A (ws ++ [(q, .inl (cy, a0))]) → va_S A H0 H1 locs →
      W p l e R s m args below meth c H1 locs (cells + 1) (slots + N') Q (F0 m (pc + 2) ls (.ref q :: rest))) : W p l e R s m args below meth c H locs cells slots Q (F0 m pc ls (.int n :: rest)) := by
  refine va_newa hexec hb harr hty hK hP hD hS hA ha hn hN hbytes hcells hslots hdg (fun q cA H1 hK1 hP1 hD1 hS1 => ?_)
  have h1 := (hK.2 t0 _ ht).2
  have h2 := (hK1.2 tys.length (cA, ty) (by simp)).2
  have hlt : t0 < tys.length := (List.getElem?_eq_some_iff.mp ht).1
  have e : cA = cy := by
    cases ty with
    | object C => exact absurd rfl (hne C)
    | _ => exact Option.some.inj (h2.symm.trans h1)
  subst e
  exact kk q H1 hP1 hD1 hS1
end MBC
/-! methods that write -/
def mb_at (dC : Nat → ClassId) (dI : Nat → Nat → Nat) (cyI cyZ cyJ : ClassId) (A : Nat → Prop) (w : va_W) (t : State) : Prop := va_P (dC, dI) vwCl w t.heap ∧ va_K (dC, dI) vwCl (mb_tys cyI cyZ cyJ) t ∧ va_D A w
def mb_M (D : va_G) (tys : List (ClassId × FieldType)) (hs : Nat) (ws : va_W) (U : State) : Prop := U.heap.size = hs ∧ va_P D vwCl ws U.heap ∧ va_K D vwCl tys U ∧ va_D (fun _ => True) ws
def mb_MG (tK tL tG : Nat) (ad : Nat → Nat) (D : va_G) (tys : List (ClassId × FieldType)) (hs : Nat) (ws : va_W) (U : State) : Prop := mb_G tK tL tG ad (va_A ws hs) U U.heap ∧ U.heap.size = hs ∧ va_P D vwCl ws U.heap ∧ va_K D vwCl tys U ∧ va_D (fun _ => True) ws
theorem mb_blindM {av : List Value} {D : va_G} {tys : List (ClassId × FieldType)} {hs : Nat} {ws : va_W} : FrameBlind (va_Pc av (mb_M D tys hs ws)) :=
  fun a U g mk q => ⟨q.1, q.2.1, q.2.2.1, va_K.moved (u := U) (U := U.calling g mk a) (Vm.Alike.refl U.vm) q.2.2.2.1, q.2.2.2.2⟩
theorem mb_blindMG {av : List Value} {tK tL tG : Nat} {ad : Nat → Nat} {D : va_G} {tys : List (ClassId × FieldType)} {hs : Nat} {ws : va_W} : FrameBlind (va_Pc av (mb_MG tK tL tG ad D tys hs ws)) :=
  fun a U g mk q => ⟨q.1, mb_G.moved (u := U) (U := U.calling g mk a) (Vm.Alike.refl U.vm) q.2.1, q.2.2.1, q.2.2.2.1, va_K.moved (u := U) (U := U.calling g mk a) (Vm.Alike.refl U.vm) q.2.2.2.2.1, q.2.2.2.2.2⟩
theorem mb_preM {s : State} {H : Heap} {As : List Value} {D : va_G} {tys : List (ClassId × FieldType)} {ws : va_W} {b q0 ci : Nat} {q : vw_C} {fs : List Value} {A : Nat → Prop} (hK : va_K D vwCl tys s) (hP : va_P D vwCl ws H) (hD : va_D A ws) (hc : vwCl[ci]? = some q) (he : ws[q0]? = some (b, .inr (ci, fs))) : PreV s H q.1 b (va_Pc (.ref b :: As) (mb_M D tys H.size ws)) As :=
  ⟨mb_blindM, va_recv hK hP hc he, fun U hU hW => ⟨rfl, by rw [hU], by rw [hU]; exact hP, va_K.moved hW.alike hK, hD.weaken (fun _ _ _ _ => trivial)⟩⟩
theorem mb_preMI {s : State} {H : Heap} {As : List Value} {D : va_G} {tys : List (ClassId × FieldType)} {ws : va_W} {A : Nat → Prop} (hK : va_K D vwCl tys s) (hP : va_P D vwCl ws H) (hD : va_D A ws) : PreS s H (va_Pc As (mb_M D tys H.size ws)) As :=
  ⟨mb_blindM, fun U hU hW => ⟨rfl, by rw [hU], by rw [hU]; exact hP, va_K.moved hW.alike hK, hD.weaken (fun _ _ _ _ => trivial)⟩⟩
theorem mb_preMG {s : State} {H : Heap} {As : List Value} {tK tL tG : Nat} {ad : Nat → Nat} {D : va_G} {tys : List (ClassId × FieldType)} {ws : va_W} {b q0 ci : Nat} {q : vw_C} {fs : List Value} {A : Nat → Prop} (hG : mb_G tK tL tG ad (va_A ws H.size) s H) (hK : va_K D vwCl tys s) (hP : va_P D vwCl ws H) (hD : va_D A ws) (hc : vwCl[ci]? = some q) (he : ws[q0]? = some (b, .inr (ci, fs))) : PreV s H q.1 b (va_Pc (.ref b :: As) (mb_MG tK tL tG ad D tys H.size ws)) As :=
  ⟨mb_blindMG, va_recv hK hP hc he, fun U hU hW => ⟨rfl, by rw [hU]; exact hG.moved hW.alike, by rw [hU], by rw [hU]; exact hP, va_K.moved hW.alike hK, hD.weaken (fun _ _ _ _ => trivial)⟩⟩
abbrev mb_T1 : Type := (Nat → Int32) × (Nat → Int32) × (Nat → Int32) × (Nat → Int64) × Int32
abbrev mb_T2 : Type := (Nat → Int32) × (Nat → Int32) × (Nat → Int32) × (Nat → Int64) × Int32 × (Nat → Int32) × (Nat → Int64) × Int32
abbrev mb_T3 : Type := Int32 × (Nat → Int32) × (Nat → Int32) × (Nat → Int32) × (Nat → Int32) × (Nat → Int32) × Int32 × (Nat → Int32) × (Nat → Int64) × Int32

/-! X2_unboxed: returns, or throws -/
abbrev xt_N : List String := ["java/lang/RuntimeException", "java/lang/Exception"]
def xt_extra : List Cond := Cond.methodLink RX2 224 (Bundle.init0 Bundle.nN) :: (vx_at0 RX2 227 RJx3273f xt_N).filter goodWord
def xt_bad : List Cond := (vx_atN 8 ++ vx_at0 RX2 227 RJx3273f xt_N).filter (fun w => !goodWord w)
def wt_unboxed : List Cond := wsX2_unboxed ++ xt_extra
theorem xt_face : xt_bad.all (fun w => w.onTables && w.faceAtom) = true := by decide +kernel
theorem xt_moved {u U : State} (hvm : u.vm.Alike U.vm) (h : ∀ w ∈ xt_bad, w.before #[] u = true) : ∀ w ∈ xt_bad, w.before #[] U = true := by
  intro w hw
  have hf := List.all_eq_true.mp xt_face w hw
  simp only [Bool.and_eq_true] at hf
  have h1 := Cond.faceAtom_setVm (args := #[]) hvm w hf.2 (h w hw)
  have h2 := Cond.onTables_vm (A := #[]) (A' := #[]) (U := U) (U' := u) U.vm w hf.1
  exact h2.trans h1
theorem xt_at {U : State} {a : Array Value} (h : ∀ w ∈ xt_bad, w.before #[] U = true) : ∀ w ∈ xt_bad, w.before a U = true := by
  intro w hw
  have hf := List.all_eq_true.mp xt_face w hw
  simp only [Bool.and_eq_true] at hf
  exact (Cond.onTables_vm (A := a) (A' := #[]) (U := U) (U' := U) U.vm w hf.1).trans (h w hw)
def mb_TH (A : Nat → Prop) (U : State) (H : Heap) : Prop := vx_Zq Bundle.tN "UNASSIGNED_STACK" Bundle.steD A U H ∧ vx_Zq Bundle.tN "SUPPRESSED_SENTINEL" Bundle.listD A U H ∧ ∀ w ∈ xt_bad, w.before #[] U = true
theorem mb_TH.moved {A : Nat → Prop} {u U : State} {H : Heap} (hvm : u.vm.Alike U.vm) (h : mb_TH A u H) : mb_TH A U H := ⟨h.1.moved hvm, h.2.1.moved hvm, xt_moved hvm h.2.2⟩
theorem mb_TH.kept {A : Nat → Prop} {U : State} {H H1 : Heap} (h : mb_TH A U H) (hq : ∀ a : Nat, a < H.size → ¬ A a → H1[a]? = H[a]?) : mb_TH A U H1 := ⟨h.1.kept hq, h.2.1.kept hq, h.2.2⟩
theorem mb_TH.narrow {A B : Nat → Prop} {U : State} {H : Heap} (h : mb_TH A U H) (hAB : ∀ q, B q → A q) : mb_TH B U H := ⟨h.1.narrow hAB, h.2.1.narrow hAB, h.2.2⟩
def mb_RT (tK tL tG : Nat) (ad : Nat → Nat) (D : va_G) (tys : List (ClassId × FieldType)) (ws : va_W) (U : State) : Prop := mb_TH mb_no U U.heap ∧ mb_G tK tL tG ad mb_no U U.heap ∧ va_P D vwCl ws U.heap ∧ va_K D vwCl tys U
theorem mb_blindT {av : List Value} {tK tL tG : Nat} {ad : Nat → Nat} {D : va_G} {tys : List (ClassId × FieldType)} {ws : va_W} : FrameBlind (va_Pc av (mb_RT tK tL tG ad D tys ws)) :=
  fun a U g mk q => ⟨q.1, mb_TH.moved (u := U) (U := U.calling g mk a) (Vm.Alike.refl U.vm) q.2.1, mb_G.moved (u := U) (U := U.calling g mk a) (Vm.Alike.refl U.vm) q.2.2.1, q.2.2.2.1, va_K.moved (u := U) (U := U.calling g mk a) (Vm.Alike.refl U.vm) q.2.2.2.2⟩
theorem mb_preTV {s : State} {H : Heap} {As : List Value} {tK tL tG : Nat} {ad : Nat → Nat} {D : va_G} {tys : List (ClassId × FieldType)} {ws : va_W} {b q0 ci : Nat} {q : vw_C} {fs : List Value} (hT : mb_TH mb_no s H) (hG : mb_G tK tL tG ad mb_no s H) (hK : va_K D vwCl tys s) (hP : va_P D vwCl ws H) (hc : vwCl[ci]? = some q) (he : ws[q0]? = some (b, .inr (ci, fs))) : PreV s H q.1 b (va_Pc (.ref b :: As) (mb_RT tK tL tG ad D tys ws)) As :=
  ⟨mb_blindT, va_recv hK hP hc he, fun U hU hW => ⟨rfl, by rw [hU]; exact hT.moved hW.alike, by rw [hU]; exact hG.moved hW.alike, by rw [hU]; exact hP, va_K.moved hW.alike hK⟩⟩
theorem mb_preTS {s : State} {H : Heap} {As : List Value} {tK tL tG : Nat} {ad : Nat → Nat} {D : va_G} {tys : List (ClassId × FieldType)} {ws : va_W} (hT : mb_TH mb_no s H) (hG : mb_G tK tL tG ad mb_no s H) (hK : va_K D vwCl tys s) (hP : va_P D vwCl ws H) : PreS s H (va_Pc As (mb_RT tK tL tG ad D tys ws)) As :=
  ⟨mb_blindT, fun U hU hW => ⟨rfl, by rw [hU]; exact hT.moved hW.alike, by rw [hU]; exact hG.moved hW.alike, by rw [hU]; exact hP, va_K.moved hW.alike hK⟩⟩
def k_X2_unboxed (so : Nat → Int32) (fi : Nat → Int32) (el : Nat → Int32) (ab : Nat → Int64) (sz : Int32) (ot : Nat → Int32) (ob : Nat → Int64) (oc : Int32) (x1 : Int32) (x2 : Int32) : Int32 :=
  if f_X2_isObject so fi el ab sz ot ob oc x1 = 0 then 0 else if f_X1_has so fi el ab sz x2 = 0 then 0 else if f_X2_isBox x2 = 0 then 0 else if ot x1.toNatClampNeg = 22 then 2 else if ot x1.toNatClampNeg = x2 then 0 else 1
def f_X2_unboxed (so : Nat → Int32) (fi : Nat → Int32) (el : Nat → Int32) (ab : Nat → Int64) (sz : Int32) (ot : Nat → Int32) (ob : Nat → Int64) (oc : Int32) (x1 : Int32) (x2 : Int32) : Int64 :=
  if f_X2_isObject so fi el ab sz ot ob oc x1 = 0 then (-1) else if f_X1_has so fi el ab sz x2 = 0 then (-1) else if f_X2_isBox x2 = 0 then (-2) else ob x1.toNatClampNeg
theorem xt_gi {ws : List Cond} (h : GoodIn wsX2_unboxed ws) : GoodIn wt_unboxed ws := fun w hw => ⟨List.mem_append_left _ (h w hw).1, (h w hw).2⟩
theorem xt_split {args : Array Value} {s : State} {L : List Cond} (h1 : ∀ w ∈ L.filter goodWord, w.before args s = true) (h2 : ∀ w ∈ L.filter (fun w => !goodWord w), w.before args s = true) : ∀ w ∈ L, w.before args s = true := by
  intro w hw
  cases hg : goodWord w with
  | true => exact h1 w (List.mem_filter.mpr ⟨hw, hg⟩)
  | false => exact h2 w (List.mem_filter.mpr ⟨hw, by rw [hg]; rfl⟩)
theorem xt_okN : (Cond.classLink RX2 222 Bundle.nN :: Cond.initialized Bundle.nN :: Cond.methodLink RX2 224 (Bundle.init0 Bundle.nN) :: vx_atN 8).all vx_ot = true := by decide +kernel
theorem xt_okC : (Cond.classLink RX2 225 RJx3273f :: Cond.initialized RJx3273f :: vx_at0 RX2 227 RJx3273f xt_N).all vx_ot = true := by decide +kernel
set_option maxHeartbeats 4000000 in
set_option maxRecDepth 100000 in
theorem c_X2_unboxed (l : Launch) (hl0 : l.stackTraces = false) (dC : Nat → ClassId) (dI : Nat → Nat → Nat) (cyI cyZ cyJ : ClassId) (tK tL tG : Nat) (ad : Nat → Nat) (h2 h1 a0 a1 a2 a3 b0 b1 : Nat) (so : Nat → Int32) (fi : Nat → Int32) (el : Nat → Int32) (ab : Nat → Int64) (sz : Int32) (ot : Nat → Int32) (ob : Nat → Int64) (oc : Int32) (x1 : Int32) (x2 : Int32) (go : oc.toInt ≤ 60) :
    vx_Met l yX2_unboxed wt_unboxed ({ frames := 7, cells := 1, slots := 8, locals := 96 }) (va_Pc [.ref h2, .int x1, .int x2] (mb_RT tK tL tG ad (dC, dI) (mb_tys cyI cyZ cyJ) [(h2, .inr (4, [.ref h1, .ref b0, .ref b1, .int oc])), (h1, .inr (3, [.ref a0, .ref a1, .ref a2, .ref a3, .int sz])), (a0, .inl (cyI, 40, .inl so)), (a1, .inl (cyZ, 40, .inl fi)), (a2, .inl (cyI, 40, .inl el)), (a3, .inl (cyJ, 40, .inr (.inl ab))), (b0, .inl (cyI, 60, .inl ot)), (b1, .inl (cyJ, 60, .inr (.inl ob)))]))
      (va_Ql (fun r (_ : Unit) => r = f_X2_unboxed so fi el ab sz ot ob oc x1 x2 ∧ k_X2_unboxed so fi el ab sz ot ob oc x1 x2 = 0) (fun _ _ => True) mb_no)
      (vx_X (fun _ : Unit => True) (fun E _ _ => (E = RJx3273f ∧ k_X2_unboxed so fi el ab sz ot ob oc x1 x2 = 1) ∨ (E = RJx5d777 ∧ k_X2_unboxed so fi el ab sz ot ob oc x1 x2 = 2)) mb_no) 1 8 (fun _ => False) := by
  refine vx_ofW (cc := cX2_unboxed) (maxL := 3) (ret := (some .long)) (by decide) rfl ?_
  intro p e s m args below meth c s₁ B hml hno hv
  obtain ⟨rfl, hTH, hG, hP, hK⟩ := hv
  have hx := B.exec
  have hb := B.bytes
  have hr := B.returns
  have hts := atoms_spec (ws := wt_unboxed) B.pre
  have hown : s.vm.findClass RX2 = some m.cls := findClass_of_methodNamed B.named
  have hlocks := B.notSynchronized
  have hP : va_P (dC, dI) vwCl [(h2, .inr (4, [.ref h1, .ref b0, .ref b1, .int oc])), (h1, .inr (3, [.ref a0, .ref a1, .ref a2, .ref a3, .int sz])), (a0, .inl (cyI, 40, .inl so)), (a1, .inl (cyZ, 40, .inl fi)), (a2, .inl (cyI, 40, .inl el)), (a3, .inl (cyJ, 40, .inr (.inl ab))), (b0, .inl (cyI, 60, .inl ot)), (b1, .inl (cyJ, 60, .inr (.inl ob)))] s.heap := hP
  have hin_X2 : ∀ w ∈ wsX20, w ∈ wt_unboxed := fun w hw => List.mem_append_left _ ((show ∀ w ∈ wsX20, w ∈ wsX2_unboxed by decide +kernel) w hw)
  have hu : ∀ w ∈ wsX2_unboxed, w.before #[.ref h2, .int x1, .int x2] s = true := fun w hw => hts w (List.mem_append_left _ hw)
  have hf_12 := hu (.fieldLink RX2 12 "ConversionTables" "types" "LConversionTables$TypeTable;") (by decide +kernel)
  have hf_16 := hu (.fieldLink RX2 16 "ConversionTables" "objectTypes" "[I") (by decide +kernel)
  have hf_20 := hu (.fieldLink RX2 20 "ConversionTables" "objectBits" "[J") (by decide +kernel)
  have hbad : ∀ w ∈ xt_bad, w.before #[.ref h2, .int x1, .int x2] s = true := xt_at hTH.2.2
  have hatN : ∀ w ∈ vx_atN 8, w.before #[.ref h2, .int x1, .int x2] s = true := xt_split (fun w hw => hu w (List.mem_cons_of_mem _ (List.mem_append_right _ hw))) (fun w hw => hbad w (by unfold xt_bad; rw [List.filter_append]; exact List.mem_append_left _ hw))
  have hat0 : ∀ w ∈ vx_at0 RX2 227 RJx3273f xt_N, w.before #[.ref h2, .int x1, .int x2] s = true := xt_split (fun w hw => hts w (List.mem_append_right _ (List.mem_cons_of_mem _ hw))) (fun w hw => hbad w (by unfold xt_bad; rw [List.filter_append]; exact List.mem_append_right _ hw))
  have hout : ∀ pc, ∀ x ∈ c.exceptionTable.toList, covers x pc = false := fun pc x hx => (hno x hx).elim
  have hS0 : va_S mb_no s.heap s.heap [] := va_S.rf
  have hl := lv_entry ([.ref h2, .int x1, .int x2]) (n := 3) (Nat.le_of_ble_eq_true rfl)
  rw [lg_entry_eq]
  generalize (lg_sl ([.ref h2, .int x1, .int x2]) ++ List.replicate (3 - (lg_sl ([.ref h2, .int x1, .int x2])).length) Slot.unset).toArray = ls at hl ⊢
  have hl : lv_has ls 3 [(0, .ref h2), (1, .int x1), (2, .int x2)] := hl
  refine lv_aload_n hx hb dX2_unboxed_0 rfl (lv_at hl 0 rfl) ?_
  refine lv_iload_n hx hb dX2_unboxed_1 rfl (lv_at hl 1 rfl) ?_
  refine mb_callSi (W.runV (As := [.int x1]) (rest := []) ⟨hx, hb, hml, hown, hts⟩ (c_X2_isObject l dC dI cyI cyZ cyJ tK tL tG ad h2 h1 a0 a1 a2 a3 b0 b1 so fi el ab sz ot ob oc x1) (cwV 1 hts (xt_gi gX2_unboxed_X2_isObject) rfl rfl rfl (by decide +kernel) ⟨Nat.le_of_ble_eq_true rfl, Nat.le_of_ble_eq_true rfl⟩) (mb_preGV hG hK hP (ci := 4) (q0 := 0) rfl rfl) rfl rfl hl.1 rfl (lv_room (Nat.le_of_ble_eq_true rfl)) dX2_unboxed_2 ⟨Nat.zero_le _, Nat.zero_le _⟩) ?_
  refine lv_if_eq (tgt := 19) hx hb dX2_unboxed_5 (by decide) (fun c_1 => ?_) (fun c_1 => ?_)
  · refine lv_ldc2 (v := (-1 : Int64)) hx hb hown (hu (.constantLong RX2 104 (-1)) (by decide +kernel)) dX2_unboxed_19 ?_
    refine W.widen (k := 1) (n := 8) (Nat.zero_le _) (Nat.zero_le _) (vx_ret ?_)
    exact W.lret (v := (-1 : Int64)) hx hb hr (fun t ht hW => ⟨⟨(-1 : Int64), (), rfl, ⟨by unfold f_X2_unboxed; rw [if_pos c_1], by unfold k_X2_unboxed; rw [if_pos c_1]⟩, trivial⟩, hS0.F ht⟩) (fun q h => by cases h) dX2_unboxed_22
  · refine lv_aload_n hx hb dX2_unboxed_8 rfl (lv_at hl 0 rfl) ?_
    refine va_get (D := (dC, dI)) (ci := 4) (v := .ref h1) (C := RX2) (T := TX2) (N := 4) hx hb hts hin_X2 hown hK hP 0 rfl rfl 0 (by decide) hf_12 (fun _ h9 => h9) rfl dX2_unboxed_9 ?_
    refine lv_iload_n hx hb dX2_unboxed_12 rfl (lv_at hl 2 rfl) ?_
    refine mb_callSi (W.runV (As := [.int x2]) (rest := []) ⟨hx, hb, hml, hown, hts⟩ (c_X1_has l dC dI cyI cyZ cyJ h1 a0 a1 a2 a3 so fi el ab sz x2) (cwV 1 hts (xt_gi gX2_unboxed_X1_has) rfl rfl rfl (by decide +kernel) ⟨Nat.le_of_ble_eq_true rfl, Nat.le_of_ble_eq_true rfl⟩) (mb_preV hK (hP.sub [1, 2, 3, 4, 5] rfl) (ci := 3) (q0 := 0) rfl rfl) rfl rfl hl.1 rfl (lv_room (Nat.le_of_ble_eq_true rfl)) dX2_unboxed_13 ⟨Nat.zero_le _, Nat.zero_le _⟩) ?_
    refine lv_if_ne (tgt := 23) hx hb dX2_unboxed_16 (by decide) (fun c_2 => ?_) (fun c_2 => ?_)
    · refine lv_iload_n hx hb dX2_unboxed_23 rfl (lv_at hl 2 rfl) ?_
      refine mb_callSi (W.runS (As := [.int x2]) (rest := []) ⟨hx, hb, hml, hown, hts⟩ (c_X2_isBox l x2) (va_cwS 1 hts (xt_gi gX2_unboxed_X2_isBox) rfl rfl rfl (by decide +kernel) ⟨Nat.le_of_ble_eq_true rfl, Nat.le_of_ble_eq_true rfl⟩) mb_preT rfl rfl hl.1 rfl (lv_room (Nat.le_of_ble_eq_true rfl)) dX2_unboxed_24 ⟨Nat.zero_le _, Nat.zero_le _⟩) ?_
      refine lv_if_ne (tgt := 34) hx hb dX2_unboxed_27 (by decide) (fun c_3 => ?_) (fun c_3 => ?_)
      · refine lv_aload_n hx hb dX2_unboxed_34 rfl (lv_at hl 0 rfl) ?_
        refine va_get (D := (dC, dI)) (ci := 4) (v := .ref b0) (C := RX2) (T := TX2) (N := 4) hx hb hts hin_X2 hown hK hP 0 rfl rfl 1 (by decide) hf_16 (fun _ h9 => h9) rfl dX2_unboxed_35 ?_
        refine lv_iload_n hx hb dX2_unboxed_38 rfl (lv_at hl 1 rfl) ?_
        refine va_iald hx hb hK hP 6 0 rfl rfl (mb_obj go c_1) dX2_unboxed_39 ?_
        refine lv_bipush (v := (22 : Int32)) hx hb dX2_unboxed_40 (by decide) ?_
        refine lv_icmp_ne (tgt := 53) hx hb dX2_unboxed_42 (by decide) (fun c_4 => ?_) (fun c_4 => ?_)
        · refine lv_aload_n hx hb dX2_unboxed_53 rfl (lv_at hl 0 rfl) ?_
          refine va_get (D := (dC, dI)) (ci := 4) (v := .ref b0) (C := RX2) (T := TX2) (N := 4) hx hb hts hin_X2 hown hK hP 0 rfl rfl 1 (by decide) hf_16 (fun _ h9 => h9) rfl dX2_unboxed_54 ?_
          refine lv_iload_n hx hb dX2_unboxed_57 rfl (lv_at hl 1 rfl) ?_
          refine va_iald hx hb hK hP 6 0 rfl rfl (mb_obj go c_1) dX2_unboxed_58 ?_
          refine lv_iload_n hx hb dX2_unboxed_59 rfl (lv_at hl 2 rfl) ?_
          refine lv_icmp_eq (tgt := 71) hx hb dX2_unboxed_60 (by decide) (fun c_5 => ?_) (fun c_5 => ?_)
          · refine lv_aload_n hx hb dX2_unboxed_71 rfl (lv_at hl 0 rfl) ?_
            refine va_get (D := (dC, dI)) (ci := 4) (v := .ref b1) (C := RX2) (T := TX2) (N := 4) hx hb hts hin_X2 hown hK hP 0 rfl rfl 2 (by decide) hf_20 (fun _ h9 => h9) rfl dX2_unboxed_72 ?_
            refine lv_iload_n hx hb dX2_unboxed_75 rfl (lv_at hl 1 rfl) ?_
            refine va_lald hx hb hK hP 7 2 rfl rfl (mb_obj go c_1) dX2_unboxed_76 ?_
            refine W.widen (k := 1) (n := 8) (Nat.zero_le _) (Nat.zero_le _) (vx_ret ?_)
            exact W.lret (v := ob x1.toNatClampNeg) hx hb hr (fun t ht hW => ⟨⟨ob x1.toNatClampNeg, (), rfl, ⟨by unfold f_X2_unboxed; rw [if_neg c_1, if_neg c_2, if_neg c_3], by unfold k_X2_unboxed; rw [if_neg c_1, if_neg c_2, if_neg c_3, if_neg c_4, if_pos c_5]⟩, trivial⟩, hS0.F ht⟩) (fun q h => by cases h) dX2_unboxed_77
          · exact vx_throw0 (own := RX2) (cls := RJx3273f) (names := xt_N) (ik := 225) (ic := 227) (A := mb_no) hx hb hl0 hown (by decide) (by decide) (hu _ (by decide +kernel)) (hu _ (by decide +kernel)) hat0 (List.all_eq_true.mp xt_okC) hTH.1 hTH.2.1 hS0 (hl.1.trans hml.symm) dX2_unboxed_63 dX2_unboxed_66 dX2_unboxed_67 dX2_unboxed_70 (hout _)
              (Nat.le_of_ble_eq_true rfl) (Nat.le_of_ble_eq_true rfl) (Nat.le_of_ble_eq_true rfl) (Nat.le_of_ble_eq_true rfl) hlocks (fun t hvm hle hkp => ⟨(), trivial, Or.inl ⟨rfl, by unfold k_X2_unboxed; rw [if_neg c_1, if_neg c_2, if_neg c_3, if_neg c_4, if_neg c_5]⟩, hle, fun q hq _ => hkp q hq⟩) (fun z hz => by cases hz) (Nat.le_of_ble_eq_true rfl) (Nat.le_of_ble_eq_true rfl)
        · exact xn_throw (own := RX2) (ik := 222) (ic := 224) (A := mb_no) hx hb hl0 hown (hu _ (by decide +kernel)) (hu _ (by decide +kernel)) (hts _ (List.mem_append_right _ List.mem_cons_self)) hatN (List.all_eq_true.mp xt_okN) hTH.1 hTH.2.1 hS0 (hl.1.trans hml.symm) dX2_unboxed_45 dX2_unboxed_48 dX2_unboxed_49 dX2_unboxed_52 (hout _)
            (Nat.le_of_ble_eq_true rfl) (Nat.le_of_ble_eq_true rfl) (Nat.le_of_ble_eq_true rfl) (Nat.le_of_ble_eq_true rfl) hlocks (fun t hvm hle hkp => ⟨(), trivial, Or.inr ⟨rfl, by unfold k_X2_unboxed; rw [if_neg c_1, if_neg c_2, if_neg c_3, if_pos c_4]⟩, hle, fun q hq _ => hkp q hq⟩) (fun z hz => by cases hz) (Nat.le_of_ble_eq_true rfl) (Nat.le_of_ble_eq_true rfl)
      · refine lv_ldc2 (v := (-2 : Int64)) hx hb hown (hu (.constantLong RX2 106 (-2)) (by decide +kernel)) dX2_unboxed_30 ?_
        refine W.widen (k := 1) (n := 8) (Nat.zero_le _) (Nat.zero_le _) (vx_ret ?_)
        exact W.lret (v := (-2 : Int64)) hx hb hr (fun t ht hW => ⟨⟨(-2 : Int64), (), rfl, ⟨by unfold f_X2_unboxed; rw [if_neg c_1, if_neg c_2, if_pos c_3], by unfold k_X2_unboxed; rw [if_neg c_1, if_neg c_2, if_pos c_3]⟩, trivial⟩, hS0.F ht⟩) (fun q h => by cases h) dX2_unboxed_33
    · refine lv_ldc2 (v := (-1 : Int64)) hx hb hown (hu (.constantLong RX2 104 (-1)) (by decide +kernel)) dX2_unboxed_19 ?_
      refine W.widen (k := 1) (n := 8) (Nat.zero_le _) (Nat.zero_le _) (vx_ret ?_)
      exact W.lret (v := (-1 : Int64)) hx hb hr (fun t ht hW => ⟨⟨(-1 : Int64), (), rfl, ⟨by unfold f_X2_unboxed; rw [if_neg c_1, if_pos c_2], by unfold k_X2_unboxed; rw [if_neg c_1, if_pos c_2]⟩, trivial⟩, hS0.F ht⟩) (fun q h => by cases h) dX2_unboxed_22

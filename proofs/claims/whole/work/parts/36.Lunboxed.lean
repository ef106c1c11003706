/-! L_unboxed: the law's own method that catches -/
theorem dL_unboxed_0 : decode cL_unboxed 0 = .ok (.aload_n 3, 1) := by decide +kernel
theorem dL_unboxed_1 : decode cL_unboxed 1 = .ok (.iconst 0, 1) := by decide +kernel
theorem dL_unboxed_2 : decode cL_unboxed 2 = .ok (.aload_n 0, 1) := by decide +kernel
theorem dL_unboxed_3 : decode cL_unboxed 3 = .ok (.iload_n 1, 1) := by decide +kernel
theorem dL_unboxed_4 : decode cL_unboxed 4 = .ok (.iload_n 2, 1) := by decide +kernel
theorem dL_unboxed_5 : decode cL_unboxed 5 = .ok (.invokevirtual 7, 3) := by decide +kernel
theorem dL_unboxed_8 : decode cL_unboxed 8 = .ok (.lastore, 1) := by decide +kernel
theorem dL_unboxed_9 : decode cL_unboxed 9 = .ok (.goto 11, 3) := by decide +kernel
theorem dL_unboxed_12 : decode cL_unboxed 12 = .ok (.astore 4, 2) := by decide +kernel
theorem dL_unboxed_14 : decode cL_unboxed 14 = .ok (.iconst 1, 1) := by decide +kernel
theorem dL_unboxed_15 : decode cL_unboxed 15 = .ok (.ireturn, 1) := by decide +kernel
theorem dL_unboxed_16 : decode cL_unboxed 16 = .ok (.astore 4, 2) := by decide +kernel
theorem dL_unboxed_18 : decode cL_unboxed 18 = .ok (.iconst 2, 1) := by decide +kernel
theorem dL_unboxed_19 : decode cL_unboxed 19 = .ok (.ireturn, 1) := by decide +kernel
theorem dL_unboxed_20 : decode cL_unboxed 20 = .ok (.iconst 0, 1) := by decide +kernel
theorem dL_unboxed_21 : decode cL_unboxed 21 = .ok (.ireturn, 1) := by decide +kernel
theorem xt_ofWH {l : Launch} {y : MethodName} {ws ws' : List Cond} {rm : Room} {Pc : Array Value → State → Prop} {Qc : Array Value → State → Outcome → State → Prop} {mc ms : Nat} {free : Addr → Prop} {cc : ByteArray} {maxL : Nat} {ret : Option FieldType} {hh : List (Nat × Nat × Nat × Nat)}
    (hy : plainName y.cls = true) (hw : ws = Cond.codeWith y cc maxL ret hh :: ws')
    (body : ∀ p e s m args below meth c s₁, BodyLoose p l y (headSpec ws rm) cc maxL ret e s m args below meth c s₁ → c.maxLocals = maxL → Pc args s →
      W p l e (headSpec ws rm).room s m args below meth c s.heap [] 0 0 (MQ below Qc args s mc ms free) (entryFrame m args maxL)) : Met l y ws rm Pc Qc mc ms free := by
  refine MetFree.of_bodyS (code := cc) (maxLocals := maxL) (ret := ret) hy ?_ ?_
  · intro args s m h hn
    obtain ⟨m9, meth, c, hn9, h1, h2, h3, h4, -, h5, h6, -⟩ := Cond.codeWith_spec (atoms_spec (ws := ws) h _ (by rw [hw]; exact List.mem_cons_self))
    cases hn.symm.trans hn9
    exact ⟨meth, c, h1, h2, h3, h4, h5, h6⟩
  · intro p e s m args below meth c s₁ B hml hP _
    have hh0 : s₁.heap = s.heap := by rw [B.state]; rfl
    obtain ⟨t, a1, o, b1, b2, b3⟩ := body p e s m args below meth c s₁ B hml hP s₁ hh0 (Stand.of_body B)
    exact ⟨t, o, a1, b1, b2, ⟨b3.1, b3.2⟩⟩
def wt_L1 : List Cond := [Cond.classLink RL 13 RJx3273f, Cond.classLink RL 15 RJx5d777, Cond.methodLink RL 7 yX2_unboxed, Cond.instanceMethod yX2_unboxed, Cond.selects RX2 yX2_unboxed yX2_unboxed, Cond.initialized RX2]
def wt_L : List Cond := .codeWith yL_unboxed cL_unboxed 5 (some .int) [(0, 9, 12, 13), (0, 9, 16, 15)] :: (wt_L1 ++ wt_unboxed)
theorem xt_goodL1 : wt_L1.all goodWord = true := by decide +kernel
theorem xt_goodU : wt_unboxed.all goodWord = true := by decide +kernel
theorem xt_gL : GoodIn wt_L (wsV RL 7 RX2 yX2_unboxed wt_unboxed) := by
  refine goodIn_app (goodIn_of _ (by decide +kernel)) (fun w hw => ⟨List.mem_cons_of_mem _ (List.mem_append_right _ hw), good_of_word (List.all_eq_true.mp xt_goodU w hw)⟩)
def mb_MT (tK tL tG : Nat) (ad : Nat → Nat) (D : va_G) (tys : List (ClassId × FieldType)) (hs : Nat) (ws wo : va_W) (U : State) : Prop := mb_TH mb_no U U.heap ∧ va_Nc RJx5d777 RJx3273f U ∧ mb_G tK tL tG ad mb_no U U.heap ∧ U.heap.size = hs ∧ va_P D vwCl ws U.heap ∧ va_P D vwCl wo U.heap ∧ va_K D vwCl tys U ∧ va_D (fun _ => True) wo
theorem mb_blindMT {av : List Value} {tK tL tG : Nat} {ad : Nat → Nat} {D : va_G} {tys : List (ClassId × FieldType)} {hs : Nat} {ws wo : va_W} : FrameBlind (va_Pc av (mb_MT tK tL tG ad D tys hs ws wo)) :=
  fun a U g mk q => ⟨q.1, mb_TH.moved (u := U) (U := U.calling g mk a) (Vm.Alike.refl U.vm) q.2.1, va_Nc.moved (u := U) (U := U.calling g mk a) (Vm.Alike.refl U.vm) q.2.2.1, mb_G.moved (u := U) (U := U.calling g mk a) (Vm.Alike.refl U.vm) q.2.2.2.1, q.2.2.2.2.1, q.2.2.2.2.2.1, q.2.2.2.2.2.2.1, va_K.moved (u := U) (U := U.calling g mk a) (Vm.Alike.refl U.vm) q.2.2.2.2.2.2.2.1, q.2.2.2.2.2.2.2.2⟩
theorem mb_preMT {s : State} {H : Heap} {As : List Value} {tK tL tG : Nat} {ad : Nat → Nat} {D : va_G} {tys : List (ClassId × FieldType)} {ws wo : va_W} {A : Nat → Prop} (hT : mb_TH mb_no s H) (hN : va_Nc RJx5d777 RJx3273f s) (hG : mb_G tK tL tG ad mb_no s H) (hK : va_K D vwCl tys s) (hP : va_P D vwCl ws H) (hPo : va_P D vwCl wo H) (hD : va_D A wo) : PreS s H (va_Pc As (mb_MT tK tL tG ad D tys H.size ws wo)) As :=
  ⟨mb_blindMT, fun U hU hW => ⟨rfl, by rw [hU]; exact hT.moved hW.alike, hN.moved hW.alike, by rw [hU]; exact hG.moved hW.alike, by rw [hU], by rw [hU]; exact hP, by rw [hU]; exact hPo, va_K.moved hW.alike hK, hD.weaken (fun _ _ _ _ => trivial)⟩⟩
def f_L_unboxed (so : Nat → Int32) (fi : Nat → Int32) (el : Nat → Int32) (ab : Nat → Int64) (sz : Int32) (ot : Nat → Int32) (ob : Nat → Int64) (oc : Int32) (ow : Nat → Int64) (x1 x2 : Int32) : Int32 × (Nat → Int64) := (k_X2_unboxed so fi el ab sz ot ob oc x1 x2, if k_X2_unboxed so fi el ab sz ot ob oc x1 x2 = 0 then vp_updL ow 0 (f_X2_unboxed so fi el ab sz ot ob oc x1 x2) else ow)
set_option maxHeartbeats 4000000 in
set_option maxRecDepth 100000 in
theorem c_L_unboxed (l : Launch) (hl0 : l.stackTraces = false) (dC : Nat → ClassId) (dI : Nat → Nat → Nat) (cyI cyZ cyJ : ClassId) (tK tL tG : Nat) (ad : Nat → Nat) (h2 h1 a0 a1 a2 a3 b0 b1 o0 : Nat) (so : Nat → Int32) (fi : Nat → Int32) (el : Nat → Int32) (ab : Nat → Int64) (sz : Int32) (ot : Nat → Int32) (ob : Nat → Int64) (oc : Int32) (ow : Nat → Int64) (hs : Nat) (x1 : Int32) (x2 : Int32) (go : oc.toInt ≤ 60) :
    Met l yL_unboxed wt_L ({ frames := 8, cells := 1, slots := 8, locals := 118 }) (va_Pc [.ref h2, .int x1, .int x2, .ref o0] (mb_MT tK tL tG ad (dC, dI) (mb_tys cyI cyZ cyJ) hs [(h2, .inr (4, [.ref h1, .ref b0, .ref b1, .int oc])), (h1, .inr (3, [.ref a0, .ref a1, .ref a2, .ref a3, .int sz])), (a0, .inl (cyI, 40, .inl so)), (a1, .inl (cyZ, 40, .inl fi)), (a2, .inl (cyI, 40, .inl el)), (a3, .inl (cyJ, 40, .inr (.inl ab))), (b0, .inl (cyI, 60, .inl ot)), (b1, .inl (cyJ, 60, .inr (.inl ob)))] [(o0, .inl (cyJ, 1, .inr (.inl ow)))]))
      (va_Qi (S := Nat → Int64) (fun r u => (r, u) = f_L_unboxed so fi el ab sz ot ob oc ow x1 x2) (fun u t => mb_at dC dI cyI cyZ cyJ (va_A [(o0, .inl (cyJ, 1, .inr (.inl ow)))] hs) [(o0, .inl (cyJ, 1, .inr (.inl u)))] t) (va_A [(o0, .inl (cyJ, 1, .inr (.inl ow)))] hs)) 1 8 (va_A [(o0, .inl (cyJ, 1, .inr (.inl ow)))] hs) := by
  refine xt_ofWH (cc := cL_unboxed) (maxL := 5) (ret := (some .int)) (hh := [(0, 9, 12, 13), (0, 9, 16, 15)]) (by decide) rfl ?_
  intro p e s m args below meth c s₁ B hml hv
  obtain ⟨rfl, hTH, hNc, hG, hsz, hP, hPo, hK, hD0⟩ := hv
  have hx := B.exec
  have hb := B.bytes
  have hr := B.returns
  have hts := atoms_spec (ws := wt_L) B.pre
  have hown : s.vm.findClass RL = some m.cls := findClass_of_methodNamed B.named
  have hlocks := B.notSynchronized
  have htab : c.exceptionTable.toList = [⟨0, 9, 12, 13⟩, ⟨0, 9, 16, 15⟩] := vx_table (x := yL_unboxed) B (hts _ List.mem_cons_self)
  subst hsz
  have hD := hD0.self (sz := s.heap.size)
  generalize hAe : va_A [(o0, .inl (cyJ, 1, .inr (.inl ow)))] s.heap.size = A at hD ⊢
  have hA : ∀ q : Nat, s.heap.size ≤ q → A q := fun q h => by rw [← hAe]; exact Or.inr h
  have hS : va_S A s.heap s.heap [] := va_S.rf
  have hP : va_P (dC, dI) vwCl [(h2, .inr (4, [.ref h1, .ref b0, .ref b1, .int oc])), (h1, .inr (3, [.ref a0, .ref a1, .ref a2, .ref a3, .int sz])), (a0, .inl (cyI, 40, .inl so)), (a1, .inl (cyZ, 40, .inl fi)), (a2, .inl (cyI, 40, .inl el)), (a3, .inl (cyJ, 40, .inr (.inl ab))), (b0, .inl (cyI, 60, .inl ot)), (b1, .inl (cyJ, 60, .inr (.inl ob)))] s.heap := hP
  have hPo : va_P (dC, dI) vwCl [(o0, .inl (cyJ, 1, .inr (.inl ow)))] s.heap := hPo
  have hw : ∀ w ∈ wt_L1, w.before #[.ref h2, .int x1, .int x2, .ref o0] s = true := fun w hw => hts w (List.mem_cons_of_mem _ (List.mem_append_left _ hw))
  have hl := lv_entry ([.ref h2, .int x1, .int x2, .ref o0]) (n := 5) (Nat.le_of_ble_eq_true rfl)
  rw [lg_entry_eq]
  generalize (lg_sl ([.ref h2, .int x1, .int x2, .ref o0]) ++ List.replicate (5 - (lg_sl ([.ref h2, .int x1, .int x2, .ref o0])).length) Slot.unset).toArray = ls at hl ⊢
  have hl : lv_has ls 5 [(0, .ref h2), (1, .int x1), (2, .int x2), (3, .ref o0)] := hl
  refine lv_aload_n hx hb dL_unboxed_0 rfl (lv_at hl 3 rfl) ?_
  refine lv_iconst (v := (0 : Int32)) hx hb dL_unboxed_1 (by decide) ?_
  refine lv_aload_n hx hb dL_unboxed_2 rfl (lv_at hl 0 rfl) ?_
  refine lv_iload_n hx hb dL_unboxed_3 rfl (lv_at hl 1 rfl) ?_
  refine lv_iload_n hx hb dL_unboxed_4 rfl (lv_at hl 2 rfl) ?_
  refine vx_calll (vx_runV (As := [.int x1, .int x2]) (rest := [.int 0, .ref o0]) ⟨hx, hb, hml, hown, hts⟩ (c_X2_unboxed l hl0 dC dI cyI cyZ cyJ tK tL tG ad h2 h1 a0 a1 a2 a3 b0 b1 so fi el ab sz ot ob oc x1 x2 go) (cwV 2 hts xt_gL rfl rfl rfl (by decide +kernel) ⟨Nat.le_of_ble_eq_true rfl, Nat.le_of_ble_eq_true rfl⟩) (mb_preTV hTH hG hK hP (ci := 4) (q0 := 0) rfl rfl) rfl rfl hl.1 rfl (lv_room (Nat.le_of_ble_eq_true rfl)) dL_unboxed_5 ⟨Nat.le_of_ble_eq_true rfl, Nat.le_of_ble_eq_true rfl⟩) hS (fun q _ h => h.elim) (fun q h => h.elim) (fun q _ h => h.elim)
    (fun E ce q9 u t H locs htq hvmq hpx hBX hle hk hS hce hcv hcl => ?_) (fun r u t H locs htq hvmq hpost hB hle hk hS => ?_)
  · have hPo : va_P (dC, dI) vwCl [(o0, .inl (cyJ, 1, .inr (.inl ow)))] H := hPo.kept (fun k q hkq => hk _ (hPo k q hkq).lt (fun h => h.elim))
    rcases hBX with ⟨rfl, hkk⟩ | ⟨rfl, hkk⟩
    · refine vx_catch (own := RL) (name := RJx3273f) hown [] ⟨0, 9, 12, 13⟩ [⟨0, 9, 16, 15⟩] (by rw [htab]; rfl) (fun z hz => by cases hz) rfl (by decide) (hw _ (by decide +kernel)) (xt_at hTH.2.2 _ (by decide +kernel)) hce hcv hcl ?_
      refine lv_astore (lv' := [(4, .ref q9), (0, .ref h2), (1, .int x1), (2, .int x2), (3, .ref o0)]) hx hb dL_unboxed_12 hl (by decide) rfl (fun ls hl => ?_)
      refine lv_iconst (v := (1 : Int32)) hx hb dL_unboxed_14 (by decide) ?_
      exact W.iret (v := (1 : Int32)) hx hb hr (fun t ht hW => ⟨⟨(1 : Int32), ow, rfl, by unfold f_L_unboxed; rw [hkk]; rfl, by rw [ht]; exact hPo, va_K.moved hW.alike hK, hD⟩, hS.F ht⟩) hS.2.2 dL_unboxed_15
    · refine vx_catch (own := RL) (name := RJx5d777) hown [⟨0, 9, 12, 13⟩] ⟨0, 9, 16, 15⟩ [] (by rw [htab]; rfl) (fun z hz => by
        rw [List.mem_singleton] at hz
        subst hz
        exact Or.inr ⟨by decide, RJx3273f, hw _ (by decide +kernel), hNc⟩) rfl (by decide) (hw _ (by decide +kernel)) (xt_at hTH.2.2 _ (by decide +kernel)) hce hcv hcl ?_
      refine lv_astore (lv' := [(4, .ref q9), (0, .ref h2), (1, .int x1), (2, .int x2), (3, .ref o0)]) hx hb dL_unboxed_16 hl (by decide) rfl (fun ls hl => ?_)
      refine lv_iconst (v := (2 : Int32)) hx hb dL_unboxed_18 (by decide) ?_
      exact W.iret (v := (2 : Int32)) hx hb hr (fun t ht hW => ⟨⟨(2 : Int32), ow, rfl, by unfold f_L_unboxed; rw [hkk]; rfl, by rw [ht]; exact hPo, va_K.moved hW.alike hK, hD⟩, hS.F ht⟩) hS.2.2 dL_unboxed_19
  · have hPo : va_P (dC, dI) vwCl [(o0, .inl (cyJ, 1, .inr (.inl ow)))] H := hPo.kept (fun k q hkq => hk _ (hPo k q hkq).lt (fun h => h.elim))
    obtain ⟨rfl, hkk⟩ := hpost
    refine va_last hx hb hK hPo hD hS 0 2 rfl rfl (show vp_in (0 : Int32) 1 from fun h => by revert h; decide) dL_unboxed_8 (fun H locs hPo hD hS => ?_)
    have hPo : va_P (dC, dI) vwCl [(o0, .inl (cyJ, 1, .inr (.inl (vp_updL ow 0 (f_X2_unboxed so fi el ab sz ot ob oc x1 x2)))))] H := hPo
    have hD : va_D A [(o0, .inl (cyJ, 1, .inr (.inl (vp_updL ow 0 (f_X2_unboxed so fi el ab sz ot ob oc x1 x2)))))] := hD
    refine lv_goto (tgt := 20) hx hb dL_unboxed_9 (by decide) ?_
    refine lv_iconst (v := (0 : Int32)) hx hb dL_unboxed_20 (by decide) ?_
    exact W.iret (v := (0 : Int32)) hx hb hr (fun t ht hW => ⟨⟨(0 : Int32), vp_updL ow 0 (f_X2_unboxed so fi el ab sz ot ob oc x1 x2), rfl, by unfold f_L_unboxed; rw [hkk]; rfl, by rw [ht]; exact hPo, va_K.moved hW.alike hK, hD⟩, hS.F ht⟩) hS.2.2 dL_unboxed_21

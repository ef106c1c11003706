set_option maxHeartbeats 4000000 in
set_option maxRecDepth 100000 in
theorem c_X3_fill (l : Launch) (dC : Nat → ClassId) (dI : Nat → Nat → Nat) (cyI cyZ cyJ : ClassId) (h3 e0 e1 e2 e3 e4 e5 e6 : Nat) (th : Int32) (so : Nat → Int32) (fi : Nat → Int32) (el : Nat → Int32) (av : Nat → Int32) (un : Nat → Int32) (ty : Int32) (kp : Nat → Int32) (bt : Nat → Int64) (oc : Int32) (hs : Nat)  (gf : fl_ok so el av un ty) : Met l yX3_fill wsX3_fill ({ frames := 2, cells := 0, slots := 0, locals := 45 }) (va_Pc [.ref h3] (mb_M (dC, dI) (mb_tys cyI cyZ cyJ) hs [(h3, .inr (5, [.int th, .int ty, .ref e0, .ref e1, .ref e2, .ref e3, .ref e4, .int oc, .ref e5, .ref e6])), (e0, .inl (cyI, 40, .inl so)), (e1, .inl (cyZ, 40, .inl fi)), (e2, .inl (cyI, 40, .inl el)), (e3, .inl (cyI, 120, .inl av)), (e4, .inl (cyZ, 1600, .inl un)), (e5, .inl (cyI, 60, .inl kp)), (e6, .inl (cyJ, 60, .inr (.inl bt)))])) (va_Qv (S := ((Nat → Int32))) (fun u => u = f_X3_fill th so fi el av un ty kp bt oc) (fun u t => mb_at dC dI cyI cyZ cyJ (va_A [(h3, .inr (5, [.int th, .int ty, .ref e0, .ref e1, .ref e2, .ref e3, .ref e4, .int oc, .ref e5, .ref e6])), (e0, .inl (cyI, 40, .inl so)), (e1, .inl (cyZ, 40, .inl fi)), (e2, .inl (cyI, 40, .inl el)), (e3, .inl (cyI, 120, .inl av)), (e4, .inl (cyZ, 1600, .inl un)), (e5, .inl (cyI, 60, .inl kp)), (e6, .inl (cyJ, 60, .inr (.inl bt)))] hs) [(h3, .inr (5, [.int th, .int ty, .ref e0, .ref e1, .ref e2, .ref e3, .ref e4, .int oc, .ref e5, .ref e6])), (e0, .inl (cyI, 40, .inl so)), (e1, .inl (cyZ, 40, .inl fi)), (e2, .inl (cyI, 40, .inl el)), (e3, .inl (cyI, 120, .inl av)), (e4, .inl (cyZ, 1600, .inl u)), (e5, .inl (cyI, 60, .inl kp)), (e6, .inl (cyJ, 60, .inr (.inl bt)))] t) (va_A [(h3, .inr (5, [.int th, .int ty, .ref e0, .ref e1, .ref e2, .ref e3, .ref e4, .int oc, .ref e5, .ref e6])), (e0, .inl (cyI, 40, .inl so)), (e1, .inl (cyZ, 40, .inl fi)), (e2, .inl (cyI, 40, .inl el)), (e3, .inl (cyI, 120, .inl av)), (e4, .inl (cyZ, 1600, .inl un)), (e5, .inl (cyI, 60, .inl kp)), (e6, .inl (cyJ, 60, .inr (.inl bt)))] hs)) 0 0 (va_A [(h3, .inr (5, [.int th, .int ty, .ref e0, .ref e1, .ref e2, .ref e3, .ref e4, .int oc, .ref e5, .ref e6])), (e0, .inl (cyI, 40, .inl so)), (e1, .inl (cyZ, 40, .inl fi)), (e2, .inl (cyI, 40, .inl el)), (e3, .inl (cyI, 120, .inl av)), (e4, .inl (cyZ, 1600, .inl un)), (e5, .inl (cyI, 60, .inl kp)), (e6, .inl (cyJ, 60, .inr (.inl bt)))] hs) := by
  refine Met.ofW (cc := cX3_fill) (maxL := 4) (ret := none) (by decide) rfl ?_
  intro p e s m args below meth c s₁ B hml hv
  obtain ⟨rfl, hsz, hP, hK, hD0⟩ := hv
  obtain ⟨gt40, gt0, ga, ge, g0⟩ := gf
  have hn : ty.toInt = (ty.toNatClampNeg : Int) := (f_tyI gt0).symm
  have hn2 : ty.toNatClampNeg ≤ 40 := by omega
  have hx := B.exec
  have hb := B.bytes
  have hr := B.returns
  have hts := atoms_spec (ws := wsX3_fill) B.pre
  have hown : s.vm.findClass RX3 = some m.cls := findClass_of_methodNamed B.named
  have hlocks := B.notSynchronized
  subst hsz
  have hD := hD0.self (sz := s.heap.size)
  generalize hAe : va_A [(h3, .inr (5, [.int th, .int ty, .ref e0, .ref e1, .ref e2, .ref e3, .ref e4, .int oc, .ref e5, .ref e6])), (e0, .inl (cyI, 40, .inl so)), (e1, .inl (cyZ, 40, .inl fi)), (e2, .inl (cyI, 40, .inl el)), (e3, .inl (cyI, 120, .inl av)), (e4, .inl (cyZ, 1600, .inl un)), (e5, .inl (cyI, 60, .inl kp)), (e6, .inl (cyJ, 60, .inr (.inl bt)))] s.heap.size = A at hD ⊢
  have hA : ∀ q : Nat, s.heap.size ≤ q → A q := fun q h => by rw [← hAe]; exact Or.inr h
  have hS : va_S A s.heap s.heap [] := va_S.rf
  have hP : va_P (dC, dI) vwCl [(h3, .inr (5, [.int th, .int ty, .ref e0, .ref e1, .ref e2, .ref e3, .ref e4, .int oc, .ref e5, .ref e6])), (e0, .inl (cyI, 40, .inl so)), (e1, .inl (cyZ, 40, .inl fi)), (e2, .inl (cyI, 40, .inl el)), (e3, .inl (cyI, 120, .inl av)), (e4, .inl (cyZ, 1600, .inl un)), (e5, .inl (cyI, 60, .inl kp)), (e6, .inl (cyJ, 60, .inr (.inl bt)))] s.heap := hP
  have hin_X3 : ∀ w ∈ wsX30, w ∈ wsX3_fill := by decide +kernel
  have hf_44 := hts (.fieldLink RX3 44 "ConversionTablesModel" "types" "I") (by decide +kernel)
  have hf_23 := hts (.fieldLink RX3 23 "ConversionTablesModel" "under" "[Z") (by decide +kernel)
  have hf_7 := hts (.fieldLink RX3 7 "ConversionTablesModel" "sort" "[I") (by decide +kernel)
  have K_67 : ∀ (k : Nat) (mo : Int32) (un2 : Nat → Int32) (H : Heap) (locs : List Loc) (ls : Array Slot) (hi67 : f67 ty.toNatClampNeg so el av un k mo un2), va_P (dC, dI) vwCl [(h3, .inr (5, [.int th, .int ty, .ref e0, .ref e1, .ref e2, .ref e3, .ref e4, .int oc, .ref e5, .ref e6])), (e0, .inl (cyI, 40, .inl so)), (e1, .inl (cyZ, 40, .inl fi)), (e2, .inl (cyI, 40, .inl el)), (e3, .inl (cyI, 120, .inl av)), (e4, .inl (cyZ, 1600, .inl un2)), (e5, .inl (cyI, 60, .inl kp)), (e6, .inl (cyJ, 60, .inr (.inl bt)))] H → va_D A [(h3, .inr (5, [.int th, .int ty, .ref e0, .ref e1, .ref e2, .ref e3, .ref e4, .int oc, .ref e5, .ref e6])), (e0, .inl (cyI, 40, .inl so)), (e1, .inl (cyZ, 40, .inl fi)), (e2, .inl (cyI, 40, .inl el)), (e3, .inl (cyI, 120, .inl av)), (e4, .inl (cyZ, 1600, .inl un2)), (e5, .inl (cyI, 60, .inl kp)), (e6, .inl (cyJ, 60, .inr (.inl bt)))] → va_S A s.heap H locs → lv_has ls 4 [(0, .ref h3), (1, .int mo)] → W p l e (headSpec wsX3_fill ({ frames := 2, cells := 0, slots := 0, locals := 45 })).room s m ([.ref h3] : List Value).toArray below meth c H locs 0 0 (MQ below (va_Qv (S := ((Nat → Int32))) (fun u => u = f_X3_fill th so fi el av un ty kp bt oc) (fun u t => mb_at dC dI cyI cyZ cyJ A [(h3, .inr (5, [.int th, .int ty, .ref e0, .ref e1, .ref e2, .ref e3, .ref e4, .int oc, .ref e5, .ref e6])), (e0, .inl (cyI, 40, .inl so)), (e1, .inl (cyZ, 40, .inl fi)), (e2, .inl (cyI, 40, .inl el)), (e3, .inl (cyI, 120, .inl av)), (e4, .inl (cyZ, 1600, .inl u)), (e5, .inl (cyI, 60, .inl kp)), (e6, .inl (cyJ, 60, .inr (.inl bt)))] t) A) ([.ref h3] : List Value).toArray s 0 0 A) (F0 m 67 ls []) := by
    intro k
    induction k with
    | zero =>
      intro mo un2 H locs ls hi67
      exact absurd hi67.2.1 (by omega)
    | succ k ih67 =>
      have K_76 : ∀ (k2 : Nat) (mo ss : Int32) (un2 : Nat → Int32) (H : Heap) (locs : List Loc) (ls : Array Slot) (hi76 : f76 ty.toNatClampNeg so el av un k k2 mo ss un2), va_P (dC, dI) vwCl [(h3, .inr (5, [.int th, .int ty, .ref e0, .ref e1, .ref e2, .ref e3, .ref e4, .int oc, .ref e5, .ref e6])), (e0, .inl (cyI, 40, .inl so)), (e1, .inl (cyZ, 40, .inl fi)), (e2, .inl (cyI, 40, .inl el)), (e3, .inl (cyI, 120, .inl av)), (e4, .inl (cyZ, 1600, .inl un2)), (e5, .inl (cyI, 60, .inl kp)), (e6, .inl (cyJ, 60, .inr (.inl bt)))] H → va_D A [(h3, .inr (5, [.int th, .int ty, .ref e0, .ref e1, .ref e2, .ref e3, .ref e4, .int oc, .ref e5, .ref e6])), (e0, .inl (cyI, 40, .inl so)), (e1, .inl (cyZ, 40, .inl fi)), (e2, .inl (cyI, 40, .inl el)), (e3, .inl (cyI, 120, .inl av)), (e4, .inl (cyZ, 1600, .inl un2)), (e5, .inl (cyI, 60, .inl kp)), (e6, .inl (cyJ, 60, .inr (.inl bt)))] → va_S A s.heap H locs → lv_has ls 4 [(0, .ref h3), (1, .int mo), (2, .int ss)] → W p l e (headSpec wsX3_fill ({ frames := 2, cells := 0, slots := 0, locals := 45 })).room s m ([.ref h3] : List Value).toArray below meth c H locs 0 0 (MQ below (va_Qv (S := ((Nat → Int32))) (fun u => u = f_X3_fill th so fi el av un ty kp bt oc) (fun u t => mb_at dC dI cyI cyZ cyJ A [(h3, .inr (5, [.int th, .int ty, .ref e0, .ref e1, .ref e2, .ref e3, .ref e4, .int oc, .ref e5, .ref e6])), (e0, .inl (cyI, 40, .inl so)), (e1, .inl (cyZ, 40, .inl fi)), (e2, .inl (cyI, 40, .inl el)), (e3, .inl (cyI, 120, .inl av)), (e4, .inl (cyZ, 1600, .inl u)), (e5, .inl (cyI, 60, .inl kp)), (e6, .inl (cyJ, 60, .inr (.inl bt)))] t) A) ([.ref h3] : List Value).toArray s 0 0 A) (F0 m 76 ls []) := by
        intro k2
        induction k2 with
        | zero =>
          intro mo ss un2 H locs ls hi76
          exact absurd hi76.2.2.1 (by omega)
        | succ k2 ih76 =>
          intro mo ss un2 H locs ls hi76 hP hD hS hl
          have K_87 : ∀ (k3 : Nat) (mo tt : Int32) (un2 : Nat → Int32) (H : Heap) (locs : List Loc) (ls : Array Slot) (hi87 : f87 ty.toNatClampNeg so el av un k (k2 + 1) k3 mo ss tt un2), va_P (dC, dI) vwCl [(h3, .inr (5, [.int th, .int ty, .ref e0, .ref e1, .ref e2, .ref e3, .ref e4, .int oc, .ref e5, .ref e6])), (e0, .inl (cyI, 40, .inl so)), (e1, .inl (cyZ, 40, .inl fi)), (e2, .inl (cyI, 40, .inl el)), (e3, .inl (cyI, 120, .inl av)), (e4, .inl (cyZ, 1600, .inl un2)), (e5, .inl (cyI, 60, .inl kp)), (e6, .inl (cyJ, 60, .inr (.inl bt)))] H → va_D A [(h3, .inr (5, [.int th, .int ty, .ref e0, .ref e1, .ref e2, .ref e3, .ref e4, .int oc, .ref e5, .ref e6])), (e0, .inl (cyI, 40, .inl so)), (e1, .inl (cyZ, 40, .inl fi)), (e2, .inl (cyI, 40, .inl el)), (e3, .inl (cyI, 120, .inl av)), (e4, .inl (cyZ, 1600, .inl un2)), (e5, .inl (cyI, 60, .inl kp)), (e6, .inl (cyJ, 60, .inr (.inl bt)))] → va_S A s.heap H locs → lv_has ls 4 [(0, .ref h3), (1, .int mo), (2, .int ss), (3, .int tt)] → W p l e (headSpec wsX3_fill ({ frames := 2, cells := 0, slots := 0, locals := 45 })).room s m ([.ref h3] : List Value).toArray below meth c H locs 0 0 (MQ below (va_Qv (S := ((Nat → Int32))) (fun u => u = f_X3_fill th so fi el av un ty kp bt oc) (fun u t => mb_at dC dI cyI cyZ cyJ A [(h3, .inr (5, [.int th, .int ty, .ref e0, .ref e1, .ref e2, .ref e3, .ref e4, .int oc, .ref e5, .ref e6])), (e0, .inl (cyI, 40, .inl so)), (e1, .inl (cyZ, 40, .inl fi)), (e2, .inl (cyI, 40, .inl el)), (e3, .inl (cyI, 120, .inl av)), (e4, .inl (cyZ, 1600, .inl u)), (e5, .inl (cyI, 60, .inl kp)), (e6, .inl (cyJ, 60, .inr (.inl bt)))] t) A) ([.ref h3] : List Value).toArray s 0 0 A) (F0 m 87 ls []) := by
            intro k3
            induction k3 with
            | zero =>
              intro mo tt un2 H locs ls hi87
              exact absurd hi87.2.2.2.1 (by omega)
            | succ k3 ih87 =>
              intro mo tt un2 H locs ls hi87 hP hD hS hl
              refine lv_iload_n hx hb dX3_fill_87 rfl (lv_at hl 3 rfl) ?_
              refine lv_aload_n hx hb dX3_fill_88 rfl (lv_at hl 0 rfl) ?_
              refine va_get (D := (dC, dI)) (ci := 5) (v := .int ty) (C := RX3) (T := TX3) (N := 10) hx hb hts hin_X3 hown hK hP 0 rfl rfl 1 (by decide) hf_44 (fun _ h9 => h9) rfl dX3_fill_89 ?_
              refine lv_icmp_ge (tgt := 138) hx hb dX3_fill_92 (by decide) (fun c_1 => ?_) (fun c_1 => ?_)
              · refine lv_iinc (v := (ss + (1 : Int32))) (lv' := [(2, .int (ss + (1 : Int32))), (0, .ref h3), (1, .int mo), (3, .int tt)]) hx hb dX3_fill_138 hl (k := 2) rfl rfl (by decide) rfl (fun ls hl => ?_)
                refine lv_goto (tgt := 76) hx hb dX3_fill_141 (by decide) ?_
                exact ih76 mo (ss + (1 : Int32)) un2 _ _ ls (f87_76 hi87 hn hn2 c_1) hP hD hS (lv_sub hl [1, 2, 0] rfl)
              · refine lv_aload_n hx hb dX3_fill_95 rfl (lv_at hl 0 rfl) ?_
                refine va_get (D := (dC, dI)) (ci := 5) (v := .ref e4) (C := RX3) (T := TX3) (N := 10) hx hb hts hin_X3 hown hK hP 0 rfl rfl 6 (by decide) hf_23 (fun _ h9 => h9) rfl dX3_fill_96 ?_
                refine lv_bipush (v := (40 : Int32)) hx hb dX3_fill_99 (by decide) ?_
                refine lv_iload_n hx hb dX3_fill_101 rfl (lv_at hl 2 rfl) ?_
                refine lv_imul hx hb dX3_fill_102 ?_
                refine lv_iload_n hx hb dX3_fill_103 rfl (lv_at hl 3 rfl) ?_
                refine lv_iadd hx hb dX3_fill_104 ?_
                refine va_zald hx hb hK hP 5 1 rfl rfl (mb_ixv ((f87_v hi87 hn hn2 c_1).1) ((f87_v hi87 hn hn2 c_1).2)) dX3_fill_105 ?_
                refine lv_if_ne (tgt := 132) hx hb dX3_fill_106 (by decide) (fun c_2 => ?_) (fun c_2 => ?_)
                · refine lv_iinc (v := (tt + (1 : Int32))) (lv' := [(3, .int (tt + (1 : Int32))), (0, .ref h3), (1, .int mo), (2, .int ss)]) hx hb dX3_fill_132 hl (k := 3) rfl rfl (by decide) rfl (fun ls hl => ?_)
                  refine lv_goto (tgt := 87) hx hb dX3_fill_135 (by decide) ?_
                  exact ih87 mo (tt + (1 : Int32)) un2 _ _ ls (f87_s1 hi87 hn hn2 c_1 c_2) hP hD hS (lv_sub hl [1, 2, 3, 0] rfl)
                · refine lv_aload_n hx hb dX3_fill_109 rfl (lv_at hl 0 rfl) ?_
                  refine lv_iload_n hx hb dX3_fill_110 rfl (lv_at hl 2 rfl) ?_
                  refine lv_iload_n hx hb dX3_fill_111 rfl (lv_at hl 3 rfl) ?_
                  refine mb_callSi (W.runV (As := [.int ss, .int tt]) (rest := []) ⟨hx, hb, hml, hown, hts⟩ (c_X3_comes l dC dI cyI cyZ cyJ h3 e0 e1 e2 e3 e4 e5 e6 so fi el av un2 ty kp bt oc th ss tt ((f87_v hi87 hn hn2 c_1).1) ((f87_v hi87 hn hn2 c_1).2) ga ge) (cwV 2 hts gX3_fill_X3_comes rfl rfl rfl (by decide +kernel) ⟨Nat.le_of_ble_eq_true rfl, Nat.le_of_ble_eq_true rfl⟩) (mb_preV hK hP (ci := 5) (q0 := 0) rfl rfl) rfl rfl hl.1 rfl (lv_room (Nat.le_of_ble_eq_true rfl)) dX3_fill_112 ⟨Nat.zero_le _, Nat.zero_le _⟩) ?_
                  refine lv_if_eq (tgt := 132) hx hb dX3_fill_115 (by decide) (fun c_3 => ?_) (fun c_3 => ?_)
                  · refine lv_iinc (v := (tt + (1 : Int32))) (lv' := [(3, .int (tt + (1 : Int32))), (0, .ref h3), (1, .int mo), (2, .int ss)]) hx hb dX3_fill_132 hl (k := 3) rfl rfl (by decide) rfl (fun ls hl => ?_)
                    refine lv_goto (tgt := 87) hx hb dX3_fill_135 (by decide) ?_
                    exact ih87 mo (tt + (1 : Int32)) un2 _ _ ls (f87_s2 ga ge hi87 hn hn2 c_1 c_3) hP hD hS (lv_sub hl [1, 2, 3, 0] rfl)
                  · refine lv_aload_n hx hb dX3_fill_118 rfl (lv_at hl 0 rfl) ?_
                    refine va_get (D := (dC, dI)) (ci := 5) (v := .ref e4) (C := RX3) (T := TX3) (N := 10) hx hb hts hin_X3 hown hK hP 0 rfl rfl 6 (by decide) hf_23 (fun _ h9 => h9) rfl dX3_fill_119 ?_
                    refine lv_bipush (v := (40 : Int32)) hx hb dX3_fill_122 (by decide) ?_
                    refine lv_iload_n hx hb dX3_fill_124 rfl (lv_at hl 2 rfl) ?_
                    refine lv_imul hx hb dX3_fill_125 ?_
                    refine lv_iload_n hx hb dX3_fill_126 rfl (lv_at hl 3 rfl) ?_
                    refine lv_iadd hx hb dX3_fill_127 ?_
                    refine lv_iconst (v := (1 : Int32)) hx hb dX3_fill_128 (by decide) ?_
                    refine va_zast hx hb hK hP hD hS 5 1 rfl rfl (mb_ixv ((f87_v hi87 hn hn2 c_1).1) ((f87_v hi87 hn hn2 c_1).2)) dX3_fill_129 (fun H locs hP hD hS => ?_)
                    have hP : va_P (dC, dI) vwCl [(h3, .inr (5, [.int th, .int ty, .ref e0, .ref e1, .ref e2, .ref e3, .ref e4, .int oc, .ref e5, .ref e6])), (e0, .inl (cyI, 40, .inl so)), (e1, .inl (cyZ, 40, .inl fi)), (e2, .inl (cyI, 40, .inl el)), (e3, .inl (cyI, 120, .inl av)), (e4, .inl (cyZ, 1600, .inl (upd un2 (((40 : Int32) * ss) + tt).toNatClampNeg (vp_nar .boolean (1 : Int32))))), (e5, .inl (cyI, 60, .inl kp)), (e6, .inl (cyJ, 60, .inr (.inl bt)))] H := hP
                    have hD : va_D A [(h3, .inr (5, [.int th, .int ty, .ref e0, .ref e1, .ref e2, .ref e3, .ref e4, .int oc, .ref e5, .ref e6])), (e0, .inl (cyI, 40, .inl so)), (e1, .inl (cyZ, 40, .inl fi)), (e2, .inl (cyI, 40, .inl el)), (e3, .inl (cyI, 120, .inl av)), (e4, .inl (cyZ, 1600, .inl (upd un2 (((40 : Int32) * ss) + tt).toNatClampNeg (vp_nar .boolean (1 : Int32))))), (e5, .inl (cyI, 60, .inl kp)), (e6, .inl (cyJ, 60, .inr (.inl bt)))] := hD
                    refine lv_iconst (v := (1 : Int32)) hx hb dX3_fill_130 (by decide) ?_
                    refine lv_istore_n (lv' := [(1, .int (1 : Int32)), (0, .ref h3), (2, .int ss), (3, .int tt)]) hx hb dX3_fill_131 rfl hl (by decide) rfl (fun ls hl => ?_)
                    refine lv_iinc (v := (tt + (1 : Int32))) (lv' := [(3, .int (tt + (1 : Int32))), (1, .int (1 : Int32)), (0, .ref h3), (2, .int ss)]) hx hb dX3_fill_132 hl (k := 3) rfl rfl (by decide) rfl (fun ls hl => ?_)
                    refine lv_goto (tgt := 87) hx hb dX3_fill_135 (by decide) ?_
                    exact ih87 (1 : Int32) (tt + (1 : Int32)) (upd un2 (((40 : Int32) * ss) + tt).toNatClampNeg (vp_nar .boolean (1 : Int32))) _ _ ls (f87_set ga ge g0 hi87 hn hn2 c_1 c_2 c_3) hP hD hS (lv_sub hl [2, 1, 3, 0] rfl)
          refine lv_iload_n hx hb dX3_fill_76 rfl (lv_at hl 2 rfl) ?_
          refine lv_aload_n hx hb dX3_fill_77 rfl (lv_at hl 0 rfl) ?_
          refine va_get (D := (dC, dI)) (ci := 5) (v := .int ty) (C := RX3) (T := TX3) (N := 10) hx hb hts hin_X3 hown hK hP 0 rfl rfl 1 (by decide) hf_44 (fun _ h9 => h9) rfl dX3_fill_78 ?_
          refine lv_icmp_ge (tgt := 144) hx hb dX3_fill_81 (by decide) (fun c_4 => ?_) (fun c_4 => ?_)
          · refine lv_goto (tgt := 67) hx hb dX3_fill_144 (by decide) ?_
            exact ih67 mo un2 _ _ ls (f76_67 hi76 hn c_4) hP hD hS (lv_sub hl [0, 1] rfl)
          · refine lv_bipush (v := (8 : Int32)) hx hb dX3_fill_84 (by decide) ?_
            refine lv_istore_n (lv' := [(3, .int (8 : Int32)), (0, .ref h3), (1, .int mo), (2, .int ss)]) hx hb dX3_fill_86 rfl hl (by decide) rfl (fun ls hl => ?_)
            exact K_87 33 mo (8 : Int32) un2 _ _ ls (f76_87 hi76 hn hn2 c_4) hP hD hS (lv_sub hl [1, 2, 3, 0] rfl)
      intro mo un2 H locs ls hi67 hP hD hS hl
      refine lv_iload_n hx hb dX3_fill_67 rfl (lv_at hl 1 rfl) ?_
      refine lv_if_eq (tgt := 147) hx hb dX3_fill_68 (by decide) (fun c_5 => ?_) (fun c_5 => ?_)
      · exact W.vret hx hb hr (fun t ht hW => ⟨⟨un2, rfl, fill_end rfl hn2 hi67.1 (hi67.2.2 c_5), by rw [ht]; exact hP, va_K.moved hW.alike hK, hD⟩, hS.F ht⟩) hS.2.2 dX3_fill_147
      · refine lv_iconst (v := (0 : Int32)) hx hb dX3_fill_71 (by decide) ?_
        refine lv_istore_n (lv' := [(1, .int (0 : Int32)), (0, .ref h3)]) hx hb dX3_fill_72 rfl hl (by decide) rfl (fun ls hl => ?_)
        refine lv_bipush (v := (8 : Int32)) hx hb dX3_fill_73 (by decide) ?_
        refine lv_istore_n (lv' := [(2, .int (8 : Int32)), (1, .int (0 : Int32)), (0, .ref h3)]) hx hb dX3_fill_75 rfl hl (by decide) rfl (fun ls hl => ?_)
        exact K_76 33 (0 : Int32) (8 : Int32) un2 _ _ ls (f67_76 hi67 c_5) hP hD hS (lv_sub hl [2, 1, 0] rfl)
  have K_3 : ∀ (k2 : Nat) (ss : Int32) (un2 : Nat → Int32) (H : Heap) (locs : List Loc) (ls : Array Slot) (hi3 : g3 ty.toNatClampNeg so un k2 ss un2), va_P (dC, dI) vwCl [(h3, .inr (5, [.int th, .int ty, .ref e0, .ref e1, .ref e2, .ref e3, .ref e4, .int oc, .ref e5, .ref e6])), (e0, .inl (cyI, 40, .inl so)), (e1, .inl (cyZ, 40, .inl fi)), (e2, .inl (cyI, 40, .inl el)), (e3, .inl (cyI, 120, .inl av)), (e4, .inl (cyZ, 1600, .inl un2)), (e5, .inl (cyI, 60, .inl kp)), (e6, .inl (cyJ, 60, .inr (.inl bt)))] H → va_D A [(h3, .inr (5, [.int th, .int ty, .ref e0, .ref e1, .ref e2, .ref e3, .ref e4, .int oc, .ref e5, .ref e6])), (e0, .inl (cyI, 40, .inl so)), (e1, .inl (cyZ, 40, .inl fi)), (e2, .inl (cyI, 40, .inl el)), (e3, .inl (cyI, 120, .inl av)), (e4, .inl (cyZ, 1600, .inl un2)), (e5, .inl (cyI, 60, .inl kp)), (e6, .inl (cyJ, 60, .inr (.inl bt)))] → va_S A s.heap H locs → lv_has ls 4 [(0, .ref h3), (1, .int ss)] → W p l e (headSpec wsX3_fill ({ frames := 2, cells := 0, slots := 0, locals := 45 })).room s m ([.ref h3] : List Value).toArray below meth c H locs 0 0 (MQ below (va_Qv (S := ((Nat → Int32))) (fun u => u = f_X3_fill th so fi el av un ty kp bt oc) (fun u t => mb_at dC dI cyI cyZ cyJ A [(h3, .inr (5, [.int th, .int ty, .ref e0, .ref e1, .ref e2, .ref e3, .ref e4, .int oc, .ref e5, .ref e6])), (e0, .inl (cyI, 40, .inl so)), (e1, .inl (cyZ, 40, .inl fi)), (e2, .inl (cyI, 40, .inl el)), (e3, .inl (cyI, 120, .inl av)), (e4, .inl (cyZ, 1600, .inl u)), (e5, .inl (cyI, 60, .inl kp)), (e6, .inl (cyJ, 60, .inr (.inl bt)))] t) A) ([.ref h3] : List Value).toArray s 0 0 A) (F0 m 3 ls []) := by
    intro k2
    induction k2 with
    | zero =>
      intro ss un2 H locs ls hi3
      exact absurd hi3.1 (by omega)
    | succ k2 ih3 =>
      intro ss un2 H locs ls hi3 hP hD hS hl
      have K_14 : ∀ (k3 : Nat) (tt : Int32) (un2 : Nat → Int32) (H : Heap) (locs : List Loc) (ls : Array Slot) (hi14 : g14 ty.toNatClampNeg so un (k2 + 1) k3 ss tt un2), va_P (dC, dI) vwCl [(h3, .inr (5, [.int th, .int ty, .ref e0, .ref e1, .ref e2, .ref e3, .ref e4, .int oc, .ref e5, .ref e6])), (e0, .inl (cyI, 40, .inl so)), (e1, .inl (cyZ, 40, .inl fi)), (e2, .inl (cyI, 40, .inl el)), (e3, .inl (cyI, 120, .inl av)), (e4, .inl (cyZ, 1600, .inl un2)), (e5, .inl (cyI, 60, .inl kp)), (e6, .inl (cyJ, 60, .inr (.inl bt)))] H → va_D A [(h3, .inr (5, [.int th, .int ty, .ref e0, .ref e1, .ref e2, .ref e3, .ref e4, .int oc, .ref e5, .ref e6])), (e0, .inl (cyI, 40, .inl so)), (e1, .inl (cyZ, 40, .inl fi)), (e2, .inl (cyI, 40, .inl el)), (e3, .inl (cyI, 120, .inl av)), (e4, .inl (cyZ, 1600, .inl un2)), (e5, .inl (cyI, 60, .inl kp)), (e6, .inl (cyJ, 60, .inr (.inl bt)))] → va_S A s.heap H locs → lv_has ls 4 [(0, .ref h3), (1, .int ss), (2, .int tt)] → W p l e (headSpec wsX3_fill ({ frames := 2, cells := 0, slots := 0, locals := 45 })).room s m ([.ref h3] : List Value).toArray below meth c H locs 0 0 (MQ below (va_Qv (S := ((Nat → Int32))) (fun u => u = f_X3_fill th so fi el av un ty kp bt oc) (fun u t => mb_at dC dI cyI cyZ cyJ A [(h3, .inr (5, [.int th, .int ty, .ref e0, .ref e1, .ref e2, .ref e3, .ref e4, .int oc, .ref e5, .ref e6])), (e0, .inl (cyI, 40, .inl so)), (e1, .inl (cyZ, 40, .inl fi)), (e2, .inl (cyI, 40, .inl el)), (e3, .inl (cyI, 120, .inl av)), (e4, .inl (cyZ, 1600, .inl u)), (e5, .inl (cyI, 60, .inl kp)), (e6, .inl (cyJ, 60, .inr (.inl bt)))] t) A) ([.ref h3] : List Value).toArray s 0 0 A) (F0 m 14 ls []) := by
        intro k3
        induction k3 with
        | zero =>
          intro tt un2 H locs ls hi14
          exact absurd hi14.2.1 (by omega)
        | succ k3 ih14 =>
          intro tt un2 H locs ls hi14 hP hD hS hl
          refine lv_iload_n hx hb dX3_fill_14 rfl (lv_at hl 2 rfl) ?_
          refine lv_aload_n hx hb dX3_fill_15 rfl (lv_at hl 0 rfl) ?_
          refine va_get (D := (dC, dI)) (ci := 5) (v := .int ty) (C := RX3) (T := TX3) (N := 10) hx hb hts hin_X3 hown hK hP 0 rfl rfl 1 (by decide) hf_44 (fun _ h9 => h9) rfl dX3_fill_16 ?_
          refine lv_icmp_ge (tgt := 59) hx hb dX3_fill_19 (by decide) (fun c_6 => ?_) (fun c_6 => ?_)
          · refine lv_iinc (v := (ss + (1 : Int32))) (lv' := [(1, .int (ss + (1 : Int32))), (0, .ref h3), (2, .int tt)]) hx hb dX3_fill_59 hl (k := 1) rfl rfl (by decide) rfl (fun ls hl => ?_)
            refine lv_goto (tgt := 3) hx hb dX3_fill_62 (by decide) ?_
            exact ih3 (ss + (1 : Int32)) un2 _ _ ls (g14_3 hi14 hn hn2 c_6) hP hD hS (lv_sub hl [1, 0] rfl)
          · refine lv_aload_n hx hb dX3_fill_22 rfl (lv_at hl 0 rfl) ?_
            refine va_get (D := (dC, dI)) (ci := 5) (v := .ref e4) (C := RX3) (T := TX3) (N := 10) hx hb hts hin_X3 hown hK hP 0 rfl rfl 6 (by decide) hf_23 (fun _ h9 => h9) rfl dX3_fill_23 ?_
            refine lv_bipush (v := (40 : Int32)) hx hb dX3_fill_26 (by decide) ?_
            refine lv_iload_n hx hb dX3_fill_28 rfl (lv_at hl 1 rfl) ?_
            refine lv_imul hx hb dX3_fill_29 ?_
            refine lv_iload_n hx hb dX3_fill_30 rfl (lv_at hl 2 rfl) ?_
            refine lv_iadd hx hb dX3_fill_31 ?_
            refine lv_iload_n hx hb dX3_fill_32 rfl (lv_at hl 1 rfl) ?_
            refine lv_iload_n hx hb dX3_fill_33 rfl (lv_at hl 2 rfl) ?_
            refine lv_icmp_eq (tgt := 47) hx hb dX3_fill_34 (by decide) (fun c_7 => ?_) (fun c_7 => ?_)
            · refine lv_iconst (v := (1 : Int32)) hx hb dX3_fill_47 (by decide) ?_
              refine lv_goto (tgt := 52) hx hb dX3_fill_48 (by decide) ?_
              refine va_zast hx hb hK hP hD hS 5 1 rfl rfl (mb_ixv ((g14_v hi14 hn hn2 c_6).1) ((g14_v hi14 hn hn2 c_6).2)) dX3_fill_52 (fun H locs hP hD hS => ?_)
              have hP : va_P (dC, dI) vwCl [(h3, .inr (5, [.int th, .int ty, .ref e0, .ref e1, .ref e2, .ref e3, .ref e4, .int oc, .ref e5, .ref e6])), (e0, .inl (cyI, 40, .inl so)), (e1, .inl (cyZ, 40, .inl fi)), (e2, .inl (cyI, 40, .inl el)), (e3, .inl (cyI, 120, .inl av)), (e4, .inl (cyZ, 1600, .inl (upd un2 (((40 : Int32) * ss) + tt).toNatClampNeg (vp_nar .boolean (1 : Int32))))), (e5, .inl (cyI, 60, .inl kp)), (e6, .inl (cyJ, 60, .inr (.inl bt)))] H := hP
              have hD : va_D A [(h3, .inr (5, [.int th, .int ty, .ref e0, .ref e1, .ref e2, .ref e3, .ref e4, .int oc, .ref e5, .ref e6])), (e0, .inl (cyI, 40, .inl so)), (e1, .inl (cyZ, 40, .inl fi)), (e2, .inl (cyI, 40, .inl el)), (e3, .inl (cyI, 120, .inl av)), (e4, .inl (cyZ, 1600, .inl (upd un2 (((40 : Int32) * ss) + tt).toNatClampNeg (vp_nar .boolean (1 : Int32))))), (e5, .inl (cyI, 60, .inl kp)), (e6, .inl (cyJ, 60, .inr (.inl bt)))] := hD
              refine lv_iinc (v := (tt + (1 : Int32))) (lv' := [(2, .int (tt + (1 : Int32))), (0, .ref h3), (1, .int ss)]) hx hb dX3_fill_53 hl (k := 2) rfl rfl (by decide) rfl (fun ls hl => ?_)
              refine lv_goto (tgt := 14) hx hb dX3_fill_56 (by decide) ?_
              exact ih14 (tt + (1 : Int32)) (upd un2 (((40 : Int32) * ss) + tt).toNatClampNeg (vp_nar .boolean (1 : Int32))) _ _ ls (g14_set hi14 hn hn2 c_6 (Or.inl ⟨Or.inl c_7, rfl⟩)) hP hD hS (lv_sub hl [1, 2, 0] rfl)
            · refine lv_aload_n hx hb dX3_fill_37 rfl (lv_at hl 0 rfl) ?_
              refine va_get (D := (dC, dI)) (ci := 5) (v := .ref e0) (C := RX3) (T := TX3) (N := 10) hx hb hts hin_X3 hown hK hP 0 rfl rfl 2 (by decide) hf_7 (fun _ h9 => h9) rfl dX3_fill_38 ?_
              refine lv_iload_n hx hb dX3_fill_41 rfl (lv_at hl 1 rfl) ?_
              refine va_iald hx hb hK hP 1 0 rfl rfl ((g14_v hi14 hn hn2 c_6).1) dX3_fill_42 ?_
              refine lv_iconst (v := (4 : Int32)) hx hb dX3_fill_43 (by decide) ?_
              refine lv_icmp_ne (tgt := 51) hx hb dX3_fill_44 (by decide) (fun c_8 => ?_) (fun c_8 => ?_)
              · refine lv_iconst (v := (0 : Int32)) hx hb dX3_fill_51 (by decide) ?_
                refine va_zast hx hb hK hP hD hS 5 1 rfl rfl (mb_ixv ((g14_v hi14 hn hn2 c_6).1) ((g14_v hi14 hn hn2 c_6).2)) dX3_fill_52 (fun H locs hP hD hS => ?_)
                have hP : va_P (dC, dI) vwCl [(h3, .inr (5, [.int th, .int ty, .ref e0, .ref e1, .ref e2, .ref e3, .ref e4, .int oc, .ref e5, .ref e6])), (e0, .inl (cyI, 40, .inl so)), (e1, .inl (cyZ, 40, .inl fi)), (e2, .inl (cyI, 40, .inl el)), (e3, .inl (cyI, 120, .inl av)), (e4, .inl (cyZ, 1600, .inl (upd un2 (((40 : Int32) * ss) + tt).toNatClampNeg (vp_nar .boolean (0 : Int32))))), (e5, .inl (cyI, 60, .inl kp)), (e6, .inl (cyJ, 60, .inr (.inl bt)))] H := hP
                have hD : va_D A [(h3, .inr (5, [.int th, .int ty, .ref e0, .ref e1, .ref e2, .ref e3, .ref e4, .int oc, .ref e5, .ref e6])), (e0, .inl (cyI, 40, .inl so)), (e1, .inl (cyZ, 40, .inl fi)), (e2, .inl (cyI, 40, .inl el)), (e3, .inl (cyI, 120, .inl av)), (e4, .inl (cyZ, 1600, .inl (upd un2 (((40 : Int32) * ss) + tt).toNatClampNeg (vp_nar .boolean (0 : Int32))))), (e5, .inl (cyI, 60, .inl kp)), (e6, .inl (cyJ, 60, .inr (.inl bt)))] := hD
                refine lv_iinc (v := (tt + (1 : Int32))) (lv' := [(2, .int (tt + (1 : Int32))), (0, .ref h3), (1, .int ss)]) hx hb dX3_fill_53 hl (k := 2) rfl rfl (by decide) rfl (fun ls hl => ?_)
                refine lv_goto (tgt := 14) hx hb dX3_fill_56 (by decide) ?_
                exact ih14 (tt + (1 : Int32)) (upd un2 (((40 : Int32) * ss) + tt).toNatClampNeg (vp_nar .boolean (0 : Int32))) _ _ ls (g14_set hi14 hn hn2 c_6 (Or.inr ⟨fun q => q.elim c_7 c_8, rfl⟩)) hP hD hS (lv_sub hl [1, 2, 0] rfl)
              · refine lv_iconst (v := (1 : Int32)) hx hb dX3_fill_47 (by decide) ?_
                refine lv_goto (tgt := 52) hx hb dX3_fill_48 (by decide) ?_
                refine va_zast hx hb hK hP hD hS 5 1 rfl rfl (mb_ixv ((g14_v hi14 hn hn2 c_6).1) ((g14_v hi14 hn hn2 c_6).2)) dX3_fill_52 (fun H locs hP hD hS => ?_)
                have hP : va_P (dC, dI) vwCl [(h3, .inr (5, [.int th, .int ty, .ref e0, .ref e1, .ref e2, .ref e3, .ref e4, .int oc, .ref e5, .ref e6])), (e0, .inl (cyI, 40, .inl so)), (e1, .inl (cyZ, 40, .inl fi)), (e2, .inl (cyI, 40, .inl el)), (e3, .inl (cyI, 120, .inl av)), (e4, .inl (cyZ, 1600, .inl (upd un2 (((40 : Int32) * ss) + tt).toNatClampNeg (vp_nar .boolean (1 : Int32))))), (e5, .inl (cyI, 60, .inl kp)), (e6, .inl (cyJ, 60, .inr (.inl bt)))] H := hP
                have hD : va_D A [(h3, .inr (5, [.int th, .int ty, .ref e0, .ref e1, .ref e2, .ref e3, .ref e4, .int oc, .ref e5, .ref e6])), (e0, .inl (cyI, 40, .inl so)), (e1, .inl (cyZ, 40, .inl fi)), (e2, .inl (cyI, 40, .inl el)), (e3, .inl (cyI, 120, .inl av)), (e4, .inl (cyZ, 1600, .inl (upd un2 (((40 : Int32) * ss) + tt).toNatClampNeg (vp_nar .boolean (1 : Int32))))), (e5, .inl (cyI, 60, .inl kp)), (e6, .inl (cyJ, 60, .inr (.inl bt)))] := hD
                refine lv_iinc (v := (tt + (1 : Int32))) (lv' := [(2, .int (tt + (1 : Int32))), (0, .ref h3), (1, .int ss)]) hx hb dX3_fill_53 hl (k := 2) rfl rfl (by decide) rfl (fun ls hl => ?_)
                refine lv_goto (tgt := 14) hx hb dX3_fill_56 (by decide) ?_
                exact ih14 (tt + (1 : Int32)) (upd un2 (((40 : Int32) * ss) + tt).toNatClampNeg (vp_nar .boolean (1 : Int32))) _ _ ls (g14_set hi14 hn hn2 c_6 (Or.inl ⟨Or.inr c_8, rfl⟩)) hP hD hS (lv_sub hl [1, 2, 0] rfl)
      refine lv_iload_n hx hb dX3_fill_3 rfl (lv_at hl 1 rfl) ?_
      refine lv_aload_n hx hb dX3_fill_4 rfl (lv_at hl 0 rfl) ?_
      refine va_get (D := (dC, dI)) (ci := 5) (v := .int ty) (C := RX3) (T := TX3) (N := 10) hx hb hts hin_X3 hown hK hP 0 rfl rfl 1 (by decide) hf_44 (fun _ h9 => h9) rfl dX3_fill_5 ?_
      refine lv_icmp_ge (tgt := 65) hx hb dX3_fill_8 (by decide) (fun c_9 => ?_) (fun c_9 => ?_)
      · refine lv_iconst (v := (1 : Int32)) hx hb dX3_fill_65 (by decide) ?_
        refine lv_istore_n (lv' := [(1, .int (1 : Int32)), (0, .ref h3)]) hx hb dX3_fill_66 rfl hl (by decide) rfl (fun ls hl => ?_)
        exact K_67 1700 (1 : Int32) un2 _ _ ls (g3_67 hi3 hn hn2 c_9) hP hD hS (lv_sub hl [1, 0] rfl)
      · refine lv_bipush (v := (8 : Int32)) hx hb dX3_fill_11 (by decide) ?_
        refine lv_istore_n (lv' := [(2, .int (8 : Int32)), (0, .ref h3), (1, .int ss)]) hx hb dX3_fill_13 rfl hl (by decide) rfl (fun ls hl => ?_)
        exact K_14 33 (8 : Int32) un2 _ _ ls (g3_14 hi3 hn hn2 c_9) hP hD hS (lv_sub hl [1, 2, 0] rfl)
  have hl := lv_entry ([.ref h3]) (n := 4) (Nat.le_of_ble_eq_true rfl)
  rw [lg_entry_eq]
  generalize (lg_sl ([.ref h3]) ++ List.replicate (4 - (lg_sl ([.ref h3])).length) Slot.unset).toArray = ls at hl ⊢
  have hl : lv_has ls 4 [(0, .ref h3)] := hl
  refine lv_bipush (v := (8 : Int32)) hx hb dX3_fill_0 (by decide) ?_
  refine lv_istore_n (lv' := [(1, .int (8 : Int32)), (0, .ref h3)]) hx hb dX3_fill_2 rfl hl (by decide) rfl (fun ls hl => ?_)
  exact K_3 33 (8 : Int32) un _ _ ls (g3_0) hP hD hS (lv_sub hl [1, 0] rfl)

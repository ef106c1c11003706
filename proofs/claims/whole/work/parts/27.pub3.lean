noncomputable def f_X3_array_z_4 (th : Int32) (so : Nat → Int32) (fi : Nat → Int32) (el : Nat → Int32) (av : Nat → Int32) (un : Nat → Int32) (ty : Int32) (kp : Nat → Int32) (bt : Nat → Int64) (oc : Int32) (x1 : Int32) (tt : Int32) (th2 : Int32) (z_3_0 : Int32) (z_3_1 : Nat → Int32) (z_3_2 : Nat → Int32) (z_3_3 : Nat → Int32) (z_3_4 : Nat → Int32) (z_3_5 : Int32) (z_4 : Nat → Int32) : Int32 × ((Int32) × (Nat → Int32) × (Nat → Int32) × (Nat → Int32) × (Nat → Int32) × (Nat → Int32) × (Int32)) := (z_3_0, th2, z_3_1, z_3_2, z_3_3, z_3_4, z_4, z_3_5)
noncomputable def f_X3_array_z_3 (th : Int32) (so : Nat → Int32) (fi : Nat → Int32) (el : Nat → Int32) (av : Nat → Int32) (un : Nat → Int32) (ty : Int32) (kp : Nat → Int32) (bt : Nat → Int64) (oc : Int32) (x1 : Int32) (tt : Int32) (th2 : Int32) (z_3_0 : Int32) (z_3_1 : Nat → Int32) (z_3_2 : Nat → Int32) (z_3_3 : Nat → Int32) (z_3_4 : Nat → Int32) (z_3_5 : Int32) : Int32 × ((Int32) × (Nat → Int32) × (Nat → Int32) × (Nat → Int32) × (Nat → Int32) × (Nat → Int32) × (Int32)) := f_X3_array_z_4 th so fi el av un ty kp bt oc x1 tt th2 z_3_0 z_3_1 z_3_2 z_3_3 z_3_4 z_3_5 (f_X3_fill th2 z_3_1 z_3_2 z_3_3 z_3_4 un z_3_5 kp bt oc)
noncomputable def f_X3_array_31 : Nat → Int32 → (Nat → Int32) → (Nat → Int32) → (Nat → Int32) → (Nat → Int32) → (Nat → Int32) → Int32 → (Nat → Int32) → (Nat → Int64) → Int32 → Int32 → Int32 → Int32 → Int32 × ((Int32) × (Nat → Int32) × (Nat → Int32) × (Nat → Int32) × (Nat → Int32) × (Nat → Int32) × (Int32))
  | 0, th, so, fi, el, av, un, ty, kp, bt, oc, _, _, _ => (0, th, so, fi, el, av, un, ty)
  | k + 1, th, so, fi, el, av, un, ty, kp, bt, oc, x1, tt, th2 => if ty ≤ tt then (if ty = (40 : Int32) then ((-3 : Int32), th2, so, fi, el, av, un, ty)
    else f_X3_array_z_3 th so fi el av un ty kp bt oc x1 tt th2 ((f_X3_add th2 so fi el av un ty kp bt oc (3 : Int32) (0 : Int32) x1 (16 : Int32) (19 : Int32) (20 : Int32)).1) ((f_X3_add th2 so fi el av un ty kp bt oc (3 : Int32) (0 : Int32) x1 (16 : Int32) (19 : Int32) (20 : Int32)).2.1) ((f_X3_add th2 so fi el av un ty kp bt oc (3 : Int32) (0 : Int32) x1 (16 : Int32) (19 : Int32) (20 : Int32)).2.2.1) ((f_X3_add th2 so fi el av un ty kp bt oc (3 : Int32) (0 : Int32) x1 (16 : Int32) (19 : Int32) (20 : Int32)).2.2.2.1) ((f_X3_add th2 so fi el av un ty kp bt oc (3 : Int32) (0 : Int32) x1 (16 : Int32) (19 : Int32) (20 : Int32)).2.2.2.2.1) ((f_X3_add th2 so fi el av un ty kp bt oc (3 : Int32) (0 : Int32) x1 (16 : Int32) (19 : Int32) (20 : Int32)).2.2.2.2.2))
  else if (so tt.toNatClampNeg) = (3 : Int32) then (if (el tt.toNatClampNeg) = x1 then (tt, th2, so, fi, el, av, un, ty)
    else f_X3_array_31 k th so fi el av un ty kp bt oc x1 (tt + (1 : Int32)) th2)
  else f_X3_array_31 k th so fi el av un ty kp bt oc x1 (tt + (1 : Int32)) th2
noncomputable def f_X3_array (th : Int32) (so : Nat → Int32) (fi : Nat → Int32) (el : Nat → Int32) (av : Nat → Int32) (un : Nat → Int32) (ty : Int32) (kp : Nat → Int32) (bt : Nat → Int64) (oc : Int32) (x1 : Int32) : Int32 × ((Int32) × (Nat → Int32) × (Nat → Int32) × (Nat → Int32) × (Nat → Int32) × (Nat → Int32) × (Int32)) := if (f_X3_isType so fi el av un ty kp bt oc x1) = 0 then ((-1 : Int32), (0 : Int32), so, fi, el, av, un, ty)
  else if (so x1.toNatClampNeg) = (4 : Int32) then ((-2 : Int32), (0 : Int32), so, fi, el, av, un, ty)
  else f_X3_array_31 18 th so fi el av un ty kp bt oc x1 (23 : Int32) (0 : Int32)
set_option maxHeartbeats 4000000 in
set_option maxRecDepth 100000 in
theorem c_X3_array (l : Launch) (dC : Nat → ClassId) (dI : Nat → Nat → Nat) (cyI cyZ cyJ : ClassId) (h3 e0 e1 e2 e3 e4 e5 e6 : Nat) (th : Int32) (so : Nat → Int32) (fi : Nat → Int32) (el : Nat → Int32) (av : Nat → Int32) (un : Nat → Int32) (ty : Int32) (kp : Nat → Int32) (bt : Nat → Int64) (oc : Int32) (hs : Nat) (x1 : Int32) (gz : 0 ≤ ty.toInt ∧ ty.toInt ≤ 40) (gf : fl_ok so el av un ty) : Met l yX3_array wsX3_array ({ frames := 3, cells := 0, slots := 0, locals := 68 }) (va_Pc [.ref h3, .int x1] (mb_M (dC, dI) (mb_tys cyI cyZ cyJ) hs [(h3, .inr (5, [.int th, .int ty, .ref e0, .ref e1, .ref e2, .ref e3, .ref e4, .int oc, .ref e5, .ref e6])), (e0, .inl (cyI, 40, .inl so)), (e1, .inl (cyZ, 40, .inl fi)), (e2, .inl (cyI, 40, .inl el)), (e3, .inl (cyI, 120, .inl av)), (e4, .inl (cyZ, 1600, .inl un)), (e5, .inl (cyI, 60, .inl kp)), (e6, .inl (cyJ, 60, .inr (.inl bt)))])) (va_Qi (S := ((Int32) × (Nat → Int32) × (Nat → Int32) × (Nat → Int32) × (Nat → Int32) × (Nat → Int32) × (Int32))) (fun r u => (r, u) = f_X3_array th so fi el av un ty kp bt oc x1) (fun u t => mb_at dC dI cyI cyZ cyJ (va_A [(h3, .inr (5, [.int th, .int ty, .ref e0, .ref e1, .ref e2, .ref e3, .ref e4, .int oc, .ref e5, .ref e6])), (e0, .inl (cyI, 40, .inl so)), (e1, .inl (cyZ, 40, .inl fi)), (e2, .inl (cyI, 40, .inl el)), (e3, .inl (cyI, 120, .inl av)), (e4, .inl (cyZ, 1600, .inl un)), (e5, .inl (cyI, 60, .inl kp)), (e6, .inl (cyJ, 60, .inr (.inl bt)))] hs) [(h3, .inr (5, [.int u.1, .int u.2.2.2.2.2.2, .ref e0, .ref e1, .ref e2, .ref e3, .ref e4, .int oc, .ref e5, .ref e6])), (e0, .inl (cyI, 40, .inl u.2.1)), (e1, .inl (cyZ, 40, .inl u.2.2.1)), (e2, .inl (cyI, 40, .inl u.2.2.2.1)), (e3, .inl (cyI, 120, .inl u.2.2.2.2.1)), (e4, .inl (cyZ, 1600, .inl u.2.2.2.2.2.1)), (e5, .inl (cyI, 60, .inl kp)), (e6, .inl (cyJ, 60, .inr (.inl bt)))] t) (va_A [(h3, .inr (5, [.int th, .int ty, .ref e0, .ref e1, .ref e2, .ref e3, .ref e4, .int oc, .ref e5, .ref e6])), (e0, .inl (cyI, 40, .inl so)), (e1, .inl (cyZ, 40, .inl fi)), (e2, .inl (cyI, 40, .inl el)), (e3, .inl (cyI, 120, .inl av)), (e4, .inl (cyZ, 1600, .inl un)), (e5, .inl (cyI, 60, .inl kp)), (e6, .inl (cyJ, 60, .inr (.inl bt)))] hs)) 0 0 (va_A [(h3, .inr (5, [.int th, .int ty, .ref e0, .ref e1, .ref e2, .ref e3, .ref e4, .int oc, .ref e5, .ref e6])), (e0, .inl (cyI, 40, .inl so)), (e1, .inl (cyZ, 40, .inl fi)), (e2, .inl (cyI, 40, .inl el)), (e3, .inl (cyI, 120, .inl av)), (e4, .inl (cyZ, 1600, .inl un)), (e5, .inl (cyI, 60, .inl kp)), (e6, .inl (cyJ, 60, .inr (.inl bt)))] hs) := by
  refine Met.ofW (cc := cX3_array) (maxL := 3) (ret := (some .int)) (by decide) rfl ?_
  intro p e s m args below meth c s₁ B hml hv
  obtain ⟨rfl, hsz, hP, hK, hD0⟩ := hv
  have hx := B.exec
  have hb := B.bytes
  have hr := B.returns
  have hts := atoms_spec (ws := wsX3_array) B.pre
  have hown : s.vm.findClass RX3 = some m.cls := findClass_of_methodNamed B.named
  have hlocks := B.notSynchronized
  subst hsz
  have hD := hD0.self (sz := s.heap.size)
  generalize hAe : va_A [(h3, .inr (5, [.int th, .int ty, .ref e0, .ref e1, .ref e2, .ref e3, .ref e4, .int oc, .ref e5, .ref e6])), (e0, .inl (cyI, 40, .inl so)), (e1, .inl (cyZ, 40, .inl fi)), (e2, .inl (cyI, 40, .inl el)), (e3, .inl (cyI, 120, .inl av)), (e4, .inl (cyZ, 1600, .inl un)), (e5, .inl (cyI, 60, .inl kp)), (e6, .inl (cyJ, 60, .inr (.inl bt)))] s.heap.size = A at hD ⊢
  have hA : ∀ q : Nat, s.heap.size ≤ q → A q := fun q h => by rw [← hAe]; exact Or.inr h
  have hS : va_S A s.heap s.heap [] := va_S.rf
  have hP : va_P (dC, dI) vwCl [(h3, .inr (5, [.int th, .int ty, .ref e0, .ref e1, .ref e2, .ref e3, .ref e4, .int oc, .ref e5, .ref e6])), (e0, .inl (cyI, 40, .inl so)), (e1, .inl (cyZ, 40, .inl fi)), (e2, .inl (cyI, 40, .inl el)), (e3, .inl (cyI, 120, .inl av)), (e4, .inl (cyZ, 1600, .inl un)), (e5, .inl (cyI, 60, .inl kp)), (e6, .inl (cyJ, 60, .inr (.inl bt)))] s.heap := hP
  have hP0 : va_P (dC, dI) vwCl [] s.heap := fun k q h => by simp at h
  have hin_X3 : ∀ w ∈ wsX30, w ∈ wsX3_array := by decide +kernel
  have hf_44 := hts (.fieldLink RX3 44 "ConversionTablesModel" "types" "I") (by decide +kernel)
  have hf_7 := hts (.fieldLink RX3 7 "ConversionTablesModel" "sort" "[I") (by decide +kernel)
  have hf_17 := hts (.fieldLink RX3 17 "ConversionTablesModel" "elements" "[I") (by decide +kernel)
  have hf_40 := hts (.fieldLink RX3 40 "ConversionTablesModel" "thrown" "I") (by decide +kernel)
  have K_31 : ∀ (k : Nat) (tt : Int32) (th2 : Int32) (H : Heap) (locs : List Loc) (ls : Array Slot) (g1 : 0 ≤ x1.toInt ∧ x1.toInt < ty.toInt) (hc : 23 ≤ tt.toInt ∧ tt.toInt ≤ 40 ∧ 40 < tt.toInt + k), va_P (dC, dI) vwCl [(h3, .inr (5, [.int th2, .int ty, .ref e0, .ref e1, .ref e2, .ref e3, .ref e4, .int oc, .ref e5, .ref e6])), (e0, .inl (cyI, 40, .inl so)), (e1, .inl (cyZ, 40, .inl fi)), (e2, .inl (cyI, 40, .inl el)), (e3, .inl (cyI, 120, .inl av)), (e4, .inl (cyZ, 1600, .inl un)), (e5, .inl (cyI, 60, .inl kp)), (e6, .inl (cyJ, 60, .inr (.inl bt)))] H → va_D A [(h3, .inr (5, [.int th2, .int ty, .ref e0, .ref e1, .ref e2, .ref e3, .ref e4, .int oc, .ref e5, .ref e6])), (e0, .inl (cyI, 40, .inl so)), (e1, .inl (cyZ, 40, .inl fi)), (e2, .inl (cyI, 40, .inl el)), (e3, .inl (cyI, 120, .inl av)), (e4, .inl (cyZ, 1600, .inl un)), (e5, .inl (cyI, 60, .inl kp)), (e6, .inl (cyJ, 60, .inr (.inl bt)))] → va_S A s.heap H locs → lv_has ls 3 [(0, .ref h3), (1, .int x1), (2, .int tt)] → f_X3_array th so fi el av un ty kp bt oc x1 = f_X3_array_31 k th so fi el av un ty kp bt oc x1 tt th2 → W p l e (headSpec wsX3_array ({ frames := 3, cells := 0, slots := 0, locals := 68 })).room s m ([.ref h3, .int x1] : List Value).toArray below meth c H locs 0 0 (MQ below (va_Qi (S := ((Int32) × (Nat → Int32) × (Nat → Int32) × (Nat → Int32) × (Nat → Int32) × (Nat → Int32) × (Int32))) (fun r u => (r, u) = f_X3_array th so fi el av un ty kp bt oc x1) (fun u t => mb_at dC dI cyI cyZ cyJ A [(h3, .inr (5, [.int u.1, .int u.2.2.2.2.2.2, .ref e0, .ref e1, .ref e2, .ref e3, .ref e4, .int oc, .ref e5, .ref e6])), (e0, .inl (cyI, 40, .inl u.2.1)), (e1, .inl (cyZ, 40, .inl u.2.2.1)), (e2, .inl (cyI, 40, .inl u.2.2.2.1)), (e3, .inl (cyI, 120, .inl u.2.2.2.2.1)), (e4, .inl (cyZ, 1600, .inl u.2.2.2.2.2.1)), (e5, .inl (cyI, 60, .inl kp)), (e6, .inl (cyJ, 60, .inr (.inl bt)))] t) A) ([.ref h3, .int x1] : List Value).toArray s 0 0 A) (F0 m 31 ls []) := by
    intro k
    induction k with
    | zero =>
      intro tt th2 H locs ls g1 hc
      exact absurd hc (by omega)
    | succ k ih =>
      intro tt th2 H locs ls g1 hc hP hD hS hl hz
      refine lv_iload_n hx hb dX3_array_31 rfl (lv_at hl 2 rfl) ?_
      refine lv_aload_n hx hb dX3_array_32 rfl (lv_at hl 0 rfl) ?_
      refine va_get (D := (dC, dI)) (ci := 5) (v := .int ty) (C := RX3) (T := TX3) (N := 10) hx hb hts hin_X3 hown hK hP 0 rfl rfl 1 (by decide) hf_44 (fun _ h9 => h9) rfl dX3_array_33 ?_
      refine lv_icmp_ge (tgt := 67) hx hb dX3_array_36 (by decide) (fun c_1 => ?_) (fun c_1 => ?_)
      · refine lv_aload_n hx hb dX3_array_67 rfl (lv_at hl 0 rfl) ?_
        refine va_get (D := (dC, dI)) (ci := 5) (v := .int ty) (C := RX3) (T := TX3) (N := 10) hx hb hts hin_X3 hown hK hP 0 rfl rfl 1 (by decide) hf_44 (fun _ h9 => h9) rfl dX3_array_68 ?_
        refine lv_bipush (v := (40 : Int32)) hx hb dX3_array_71 (by decide) ?_
        refine lv_icmp_ne (tgt := 79) hx hb dX3_array_73 (by decide) (fun c_2 => ?_) (fun c_2 => ?_)
        · refine lv_aload_n hx hb dX3_array_79 rfl (lv_at hl 0 rfl) ?_
          refine lv_iconst (v := (3 : Int32)) hx hb dX3_array_80 (by decide) ?_
          refine lv_iconst (v := (0 : Int32)) hx hb dX3_array_81 (by decide) ?_
          refine lv_iload_n hx hb dX3_array_82 rfl (lv_at hl 1 rfl) ?_
          refine lv_bipush (v := (16 : Int32)) hx hb dX3_array_83 (by decide) ?_
          refine lv_bipush (v := (19 : Int32)) hx hb dX3_array_85 (by decide) ?_
          refine lv_bipush (v := (20 : Int32)) hx hb dX3_array_87 (by decide) ?_
          have hPc := hP.sub (ws' := [(h3, .inr (5, [.int th2, .int ty, .ref e0, .ref e1, .ref e2, .ref e3, .ref e4, .int oc, .ref e5, .ref e6])), (e0, .inl (cyI, 40, .inl so)), (e1, .inl (cyZ, 40, .inl fi)), (e2, .inl (cyI, 40, .inl el)), (e3, .inl (cyI, 120, .inl av)), (e4, .inl (cyZ, 1600, .inl un)), (e5, .inl (cyI, 60, .inl kp)), (e6, .inl (cyJ, 60, .inr (.inl bt)))]) [0, 1, 2, 3, 4, 5, 6, 7] rfl
          have hDc := hD.sub (ws' := [(h3, .inr (5, [.int th2, .int ty, .ref e0, .ref e1, .ref e2, .ref e3, .ref e4, .int oc, .ref e5, .ref e6])), (e0, .inl (cyI, 40, .inl so)), (e1, .inl (cyZ, 40, .inl fi)), (e2, .inl (cyI, 40, .inl el)), (e3, .inl (cyI, 120, .inl av)), (e4, .inl (cyZ, 1600, .inl un)), (e5, .inl (cyI, 60, .inl kp)), (e6, .inl (cyJ, 60, .inr (.inl bt)))]) [0, 1, 2, 3, 4, 5, 6, 7] (by decide) rfl
          have hFc := va_free (wc := [(h3, .inr (5, [.int th2, .int ty, .ref e0, .ref e1, .ref e2, .ref e3, .ref e4, .int oc, .ref e5, .ref e6])), (e0, .inl (cyI, 40, .inl so)), (e1, .inl (cyZ, 40, .inl fi)), (e2, .inl (cyI, 40, .inl el)), (e3, .inl (cyI, 120, .inl av)), (e4, .inl (cyZ, 1600, .inl un)), (e5, .inl (cyI, 60, .inl kp)), (e6, .inl (cyJ, 60, .inr (.inl bt)))]) hD hS hA [0, 1, 2, 3, 4, 5, 6, 7] rfl
          refine mb_calli (va_runV (As := [.int (3 : Int32), .int (0 : Int32), .int x1, .int (16 : Int32), .int (19 : Int32), .int (20 : Int32)]) (rest := []) ⟨hx, hb, hml, hown, hts⟩ (c_X3_add l dC dI cyI cyZ cyJ h3 e0 e1 e2 e3 e4 e5 e6 th2 so fi el av un ty kp bt oc H.size (3 : Int32) (0 : Int32) x1 (16 : Int32) (19 : Int32) (20 : Int32) (mb_tyfull gz c_2)) (cwV 6 hts gX3_array_X3_add rfl rfl rfl (by decide +kernel) ⟨Nat.le_of_ble_eq_true rfl, Nat.le_of_ble_eq_true rfl⟩) (mb_preM hK hPc hDc (ci := 5) (q0 := 0) rfl rfl) rfl rfl hl.1 rfl (lv_room (Nat.le_of_ble_eq_true rfl)) dX3_array_89 ⟨Nat.zero_le _, Nat.zero_le _⟩) hS (fun q _ h => hFc q h) hFc (fun tq H locs htq hvmq hBq hk1 hS => ?_)
          obtain ⟨hP1, hK1, hD1⟩ := hBq
          rw [htq] at hP1
          obtain ⟨hP, hD⟩ := va_join (wr := []) (w1 := [(h3, .inr (5, [.int th2, .int ((f_X3_add th2 so fi el av un ty kp bt oc (3 : Int32) (0 : Int32) x1 (16 : Int32) (19 : Int32) (20 : Int32)).2.2.2.2.2), .ref e0, .ref e1, .ref e2, .ref e3, .ref e4, .int oc, .ref e5, .ref e6])), (e0, .inl (cyI, 40, .inl ((f_X3_add th2 so fi el av un ty kp bt oc (3 : Int32) (0 : Int32) x1 (16 : Int32) (19 : Int32) (20 : Int32)).2.1))), (e1, .inl (cyZ, 40, .inl ((f_X3_add th2 so fi el av un ty kp bt oc (3 : Int32) (0 : Int32) x1 (16 : Int32) (19 : Int32) (20 : Int32)).2.2.1))), (e2, .inl (cyI, 40, .inl ((f_X3_add th2 so fi el av un ty kp bt oc (3 : Int32) (0 : Int32) x1 (16 : Int32) (19 : Int32) (20 : Int32)).2.2.2.1))), (e3, .inl (cyI, 120, .inl ((f_X3_add th2 so fi el av un ty kp bt oc (3 : Int32) (0 : Int32) x1 (16 : Int32) (19 : Int32) (20 : Int32)).2.2.2.2.1))), (e4, .inl (cyZ, 1600, .inl un)), (e5, .inl (cyI, 60, .inl kp)), (e6, .inl (cyJ, 60, .inr (.inl bt)))]) hP hD [0, 1, 2, 3, 4, 5, 6, 7] [] rfl rfl (by decide) (by decide) hk1 hFc hP1 hD1
          generalize ez_3 : (f_X3_add th2 so fi el av un ty kp bt oc (3 : Int32) (0 : Int32) x1 (16 : Int32) (19 : Int32) (20 : Int32)) = z_3 at hP hD ⊢
          replace ez_3 := Eq.symm ez_3
          obtain ⟨z_3_0, z_3_1, z_3_2, z_3_3, z_3_4, z_3_5⟩ := z_3
          have hP : va_P (dC, dI) vwCl [(h3, .inr (5, [.int th2, .int z_3_5, .ref e0, .ref e1, .ref e2, .ref e3, .ref e4, .int oc, .ref e5, .ref e6])), (e0, .inl (cyI, 40, .inl z_3_1)), (e1, .inl (cyZ, 40, .inl z_3_2)), (e2, .inl (cyI, 40, .inl z_3_3)), (e3, .inl (cyI, 120, .inl z_3_4)), (e4, .inl (cyZ, 1600, .inl un)), (e5, .inl (cyI, 60, .inl kp)), (e6, .inl (cyJ, 60, .inr (.inl bt)))] H := hP
          have hD : va_D A [(h3, .inr (5, [.int th2, .int z_3_5, .ref e0, .ref e1, .ref e2, .ref e3, .ref e4, .int oc, .ref e5, .ref e6])), (e0, .inl (cyI, 40, .inl z_3_1)), (e1, .inl (cyZ, 40, .inl z_3_2)), (e2, .inl (cyI, 40, .inl z_3_3)), (e3, .inl (cyI, 120, .inl z_3_4)), (e4, .inl (cyZ, 1600, .inl un)), (e5, .inl (cyI, 60, .inl kp)), (e6, .inl (cyJ, 60, .inr (.inl bt)))] := hD
          refine lv_istore_n (lv' := [(2, .int z_3_0), (0, .ref h3), (1, .int x1)]) hx hb dX3_array_92 rfl hl (by decide) rfl (fun ls hl => ?_)
          refine lv_aload_n hx hb dX3_array_93 rfl (lv_at hl 1 rfl) ?_
          have hPc := hP.sub (ws' := [(h3, .inr (5, [.int th2, .int z_3_5, .ref e0, .ref e1, .ref e2, .ref e3, .ref e4, .int oc, .ref e5, .ref e6])), (e0, .inl (cyI, 40, .inl z_3_1)), (e1, .inl (cyZ, 40, .inl z_3_2)), (e2, .inl (cyI, 40, .inl z_3_3)), (e3, .inl (cyI, 120, .inl z_3_4)), (e4, .inl (cyZ, 1600, .inl un)), (e5, .inl (cyI, 60, .inl kp)), (e6, .inl (cyJ, 60, .inr (.inl bt)))]) [0, 1, 2, 3, 4, 5, 6, 7] rfl
          have hDc := hD.sub (ws' := [(h3, .inr (5, [.int th2, .int z_3_5, .ref e0, .ref e1, .ref e2, .ref e3, .ref e4, .int oc, .ref e5, .ref e6])), (e0, .inl (cyI, 40, .inl z_3_1)), (e1, .inl (cyZ, 40, .inl z_3_2)), (e2, .inl (cyI, 40, .inl z_3_3)), (e3, .inl (cyI, 120, .inl z_3_4)), (e4, .inl (cyZ, 1600, .inl un)), (e5, .inl (cyI, 60, .inl kp)), (e6, .inl (cyJ, 60, .inr (.inl bt)))]) [0, 1, 2, 3, 4, 5, 6, 7] (by decide) rfl
          have hFc := va_free (wc := [(h3, .inr (5, [.int th2, .int z_3_5, .ref e0, .ref e1, .ref e2, .ref e3, .ref e4, .int oc, .ref e5, .ref e6])), (e0, .inl (cyI, 40, .inl z_3_1)), (e1, .inl (cyZ, 40, .inl z_3_2)), (e2, .inl (cyI, 40, .inl z_3_3)), (e3, .inl (cyI, 120, .inl z_3_4)), (e4, .inl (cyZ, 1600, .inl un)), (e5, .inl (cyI, 60, .inl kp)), (e6, .inl (cyJ, 60, .inr (.inl bt)))]) hD hS hA [0, 1, 2, 3, 4, 5, 6, 7] rfl
          refine mb_callv (va_runV (As := []) (rest := []) ⟨hx, hb, hml, hown, hts⟩ (c_X3_fill l dC dI cyI cyZ cyJ h3 e0 e1 e2 e3 e4 e5 e6 th2 z_3_1 z_3_2 z_3_3 z_3_4 un z_3_5 kp bt oc H.size (fl_addz ez_3 gf (mb_tyfull gz c_2) (Or.inr g1) (by decide) (by decide) (by decide))) (cwV 0 hts gX3_array_X3_fill rfl rfl rfl (by decide +kernel) ⟨Nat.le_of_ble_eq_true rfl, Nat.le_of_ble_eq_true rfl⟩) (mb_preM hK hPc hDc (ci := 5) (q0 := 0) rfl rfl) rfl rfl hl.1 rfl (lv_room (Nat.le_of_ble_eq_true rfl)) dX3_array_94 ⟨Nat.zero_le _, Nat.zero_le _⟩) hS (fun q _ h => hFc q h) hFc (fun tq H locs htq hvmq hBq hk1 hS => ?_)
          obtain ⟨hP1, hK1, hD1⟩ := hBq
          rw [htq] at hP1
          obtain ⟨hP, hD⟩ := va_join (wr := []) (w1 := [(h3, .inr (5, [.int th2, .int z_3_5, .ref e0, .ref e1, .ref e2, .ref e3, .ref e4, .int oc, .ref e5, .ref e6])), (e0, .inl (cyI, 40, .inl z_3_1)), (e1, .inl (cyZ, 40, .inl z_3_2)), (e2, .inl (cyI, 40, .inl z_3_3)), (e3, .inl (cyI, 120, .inl z_3_4)), (e4, .inl (cyZ, 1600, .inl (f_X3_fill th2 z_3_1 z_3_2 z_3_3 z_3_4 un z_3_5 kp bt oc))), (e5, .inl (cyI, 60, .inl kp)), (e6, .inl (cyJ, 60, .inr (.inl bt)))]) hP hD [0, 1, 2, 3, 4, 5, 6, 7] [] rfl rfl (by decide) (by decide) hk1 hFc hP1 hD1
          generalize ez_4 : (f_X3_fill th2 z_3_1 z_3_2 z_3_3 z_3_4 un z_3_5 kp bt oc) = z_4 at hP hD ⊢
          replace ez_4 := Eq.symm ez_4
          have hP : va_P (dC, dI) vwCl [(h3, .inr (5, [.int th2, .int z_3_5, .ref e0, .ref e1, .ref e2, .ref e3, .ref e4, .int oc, .ref e5, .ref e6])), (e0, .inl (cyI, 40, .inl z_3_1)), (e1, .inl (cyZ, 40, .inl z_3_2)), (e2, .inl (cyI, 40, .inl z_3_3)), (e3, .inl (cyI, 120, .inl z_3_4)), (e4, .inl (cyZ, 1600, .inl z_4)), (e5, .inl (cyI, 60, .inl kp)), (e6, .inl (cyJ, 60, .inr (.inl bt)))] H := hP
          have hD : va_D A [(h3, .inr (5, [.int th2, .int z_3_5, .ref e0, .ref e1, .ref e2, .ref e3, .ref e4, .int oc, .ref e5, .ref e6])), (e0, .inl (cyI, 40, .inl z_3_1)), (e1, .inl (cyZ, 40, .inl z_3_2)), (e2, .inl (cyI, 40, .inl z_3_3)), (e3, .inl (cyI, 120, .inl z_3_4)), (e4, .inl (cyZ, 1600, .inl z_4)), (e5, .inl (cyI, 60, .inl kp)), (e6, .inl (cyJ, 60, .inr (.inl bt)))] := hD
          refine lv_iload_n hx hb dX3_array_97 rfl (lv_at hl 0 rfl) ?_
          exact W.iret (v := z_3_0) hx hb hr (fun t ht hW => ⟨⟨z_3_0, (th2, z_3_1, z_3_2, z_3_3, z_3_4, z_4, z_3_5), rfl, Eq.symm (hz.trans ((if_pos c_1).trans ((if_neg c_2).trans ((congrArg (fun (q : (Int32) × (Nat → Int32) × (Nat → Int32) × (Nat → Int32) × (Nat → Int32) × (Int32)) => f_X3_array_z_3 th so fi el av un ty kp bt oc x1 tt th2 q.1 q.2.1 q.2.2.1 q.2.2.2.1 q.2.2.2.2.1 q.2.2.2.2.2) (Eq.symm ez_3)).trans ((congrArg (fun (q : (Nat → Int32)) => f_X3_array_z_4 th so fi el av un ty kp bt oc x1 tt th2 z_3_0 z_3_1 z_3_2 z_3_3 z_3_4 z_3_5 q) (Eq.symm ez_4)).trans (rfl)))))), by rw [ht]; exact hP, va_K.moved hW.alike hK, hD⟩, hS.F ht⟩) hS.2.2 dX3_array_98
        · refine lv_bipush (v := (-3 : Int32)) hx hb dX3_array_76 (by decide) ?_
          exact W.iret (v := (-3 : Int32)) hx hb hr (fun t ht hW => ⟨⟨(-3 : Int32), (th2, so, fi, el, av, un, ty), rfl, Eq.symm (hz.trans ((if_pos c_1).trans ((if_pos c_2).trans (rfl)))), by rw [ht]; exact hP, va_K.moved hW.alike hK, hD⟩, hS.F ht⟩) hS.2.2 dX3_array_78
      · refine lv_aload_n hx hb dX3_array_39 rfl (lv_at hl 0 rfl) ?_
        refine va_get (D := (dC, dI)) (ci := 5) (v := .ref e0) (C := RX3) (T := TX3) (N := 10) hx hb hts hin_X3 hown hK hP 0 rfl rfl 2 (by decide) hf_7 (fun _ h9 => h9) rfl dX3_array_40 ?_
        refine lv_iload_n hx hb dX3_array_43 rfl (lv_at hl 2 rfl) ?_
        refine va_iald hx hb hK hP 1 0 rfl rfl (mb_ctr hc gz.2 c_1) dX3_array_44 ?_
        refine lv_iconst (v := (3 : Int32)) hx hb dX3_array_45 (by decide) ?_
        refine lv_icmp_ne (tgt := 61) hx hb dX3_array_46 (by decide) (fun c_5 => ?_) (fun c_5 => ?_)
        · refine lv_iinc (v := (tt + (1 : Int32))) (lv' := [(2, .int (tt + (1 : Int32))), (0, .ref h3), (1, .int x1)]) hx hb dX3_array_61 hl (k := 2) rfl rfl (by decide) rfl (fun ls hl => ?_)
          refine lv_goto (tgt := 31) hx hb dX3_array_64 (by decide) ?_
          exact ih (tt + (1 : Int32)) th2 _ _ ls (g1) (mb_ctr_step hc gz.2 c_1) hP hD hS (lv_sub hl [1, 2, 0] rfl) (hz.trans ((if_neg c_1).trans ((if_neg c_5).trans (rfl))))
        · refine lv_aload_n hx hb dX3_array_49 rfl (lv_at hl 0 rfl) ?_
          refine va_get (D := (dC, dI)) (ci := 5) (v := .ref e2) (C := RX3) (T := TX3) (N := 10) hx hb hts hin_X3 hown hK hP 0 rfl rfl 4 (by decide) hf_17 (fun _ h9 => h9) rfl dX3_array_50 ?_
          refine lv_iload_n hx hb dX3_array_53 rfl (lv_at hl 2 rfl) ?_
          refine va_iald hx hb hK hP 3 0 rfl rfl (mb_ctr hc gz.2 c_1) dX3_array_54 ?_
          refine lv_iload_n hx hb dX3_array_55 rfl (lv_at hl 1 rfl) ?_
          refine lv_icmp_ne (tgt := 61) hx hb dX3_array_56 (by decide) (fun c_6 => ?_) (fun c_6 => ?_)
          · refine lv_iinc (v := (tt + (1 : Int32))) (lv' := [(2, .int (tt + (1 : Int32))), (0, .ref h3), (1, .int x1)]) hx hb dX3_array_61 hl (k := 2) rfl rfl (by decide) rfl (fun ls hl => ?_)
            refine lv_goto (tgt := 31) hx hb dX3_array_64 (by decide) ?_
            exact ih (tt + (1 : Int32)) th2 _ _ ls (g1) (mb_ctr_step hc gz.2 c_1) hP hD hS (lv_sub hl [1, 2, 0] rfl) (hz.trans ((if_neg c_1).trans ((if_pos c_5).trans ((if_neg c_6).trans (rfl)))))
          · refine lv_iload_n hx hb dX3_array_59 rfl (lv_at hl 2 rfl) ?_
            exact W.iret (v := tt) hx hb hr (fun t ht hW => ⟨⟨tt, (th2, so, fi, el, av, un, ty), rfl, Eq.symm (hz.trans ((if_neg c_1).trans ((if_pos c_5).trans ((if_pos c_6).trans (rfl))))), by rw [ht]; exact hP, va_K.moved hW.alike hK, hD⟩, hS.F ht⟩) hS.2.2 dX3_array_60
  have hl := lv_entry ([.ref h3, .int x1]) (n := 3) (Nat.le_of_ble_eq_true rfl)
  rw [lg_entry_eq]
  generalize (lg_sl ([.ref h3, .int x1]) ++ List.replicate (3 - (lg_sl ([.ref h3, .int x1])).length) Slot.unset).toArray = ls at hl ⊢
  have hl : lv_has ls 3 [(0, .ref h3), (1, .int x1)] := hl
  refine lv_aload_n hx hb dX3_array_0 rfl (lv_at hl 0 rfl) ?_
  refine lv_iconst (v := (0 : Int32)) hx hb dX3_array_1 (by decide) ?_
  refine va_put (D := (dC, dI)) (ci := 5) (v := .int (0 : Int32)) (ty := .int) (C := RX3) (T := TX3) (N := 10) hx hb hts hin_X3 tyX3 tyX3_ok nmX3 hown hK hP hD hS 0 rfl rfl 0 (by decide) hf_40 (fun _ h9 => h9) rfl (by decide +kernel) rfl rfl (Nat.le_of_ble_eq_true rfl) dX3_array_2 (fun H locs hP hD hS => ?_)
  have hP : va_P (dC, dI) vwCl [(h3, .inr (5, [.int (0 : Int32), .int ty, .ref e0, .ref e1, .ref e2, .ref e3, .ref e4, .int oc, .ref e5, .ref e6])), (e0, .inl (cyI, 40, .inl so)), (e1, .inl (cyZ, 40, .inl fi)), (e2, .inl (cyI, 40, .inl el)), (e3, .inl (cyI, 120, .inl av)), (e4, .inl (cyZ, 1600, .inl un)), (e5, .inl (cyI, 60, .inl kp)), (e6, .inl (cyJ, 60, .inr (.inl bt)))] H := hP
  have hD : va_D A [(h3, .inr (5, [.int (0 : Int32), .int ty, .ref e0, .ref e1, .ref e2, .ref e3, .ref e4, .int oc, .ref e5, .ref e6])), (e0, .inl (cyI, 40, .inl so)), (e1, .inl (cyZ, 40, .inl fi)), (e2, .inl (cyI, 40, .inl el)), (e3, .inl (cyI, 120, .inl av)), (e4, .inl (cyZ, 1600, .inl un)), (e5, .inl (cyI, 60, .inl kp)), (e6, .inl (cyJ, 60, .inr (.inl bt)))] := hD
  refine lv_aload_n hx hb dX3_array_5 rfl (lv_at hl 0 rfl) ?_
  refine lv_iload_n hx hb dX3_array_6 rfl (lv_at hl 1 rfl) ?_
  refine mb_callSi (W.runV (As := [.int x1]) (rest := []) ⟨hx, hb, hml, hown, hts⟩ (c_X3_isType l dC dI cyI cyZ cyJ h3 e0 e1 e2 e3 e4 e5 e6 so fi el av un ty kp bt oc (0 : Int32) x1) (cwV 1 hts gX3_array_X3_isType rfl rfl rfl (by decide +kernel) ⟨Nat.le_of_ble_eq_true rfl, Nat.le_of_ble_eq_true rfl⟩) (mb_preV hK hP (ci := 5) (q0 := 0) rfl rfl) rfl rfl hl.1 rfl (lv_room (Nat.le_of_ble_eq_true rfl)) dX3_array_7 ⟨Nat.zero_le _, Nat.zero_le _⟩) ?_
  refine lv_if_ne (tgt := 15) hx hb dX3_array_10 (by decide) (fun c_7 => ?_) (fun c_7 => ?_)
  · refine lv_aload_n hx hb dX3_array_15 rfl (lv_at hl 0 rfl) ?_
    refine va_get (D := (dC, dI)) (ci := 5) (v := .ref e0) (C := RX3) (T := TX3) (N := 10) hx hb hts hin_X3 hown hK hP 0 rfl rfl 2 (by decide) hf_7 (fun _ h9 => h9) rfl dX3_array_16 ?_
    refine lv_iload_n hx hb dX3_array_19 rfl (lv_at hl 1 rfl) ?_
    refine va_iald hx hb hK hP 1 0 rfl rfl (mb_ist gz c_7) dX3_array_20 ?_
    refine lv_iconst (v := (4 : Int32)) hx hb dX3_array_21 (by decide) ?_
    refine lv_icmp_ne (tgt := 28) hx hb dX3_array_22 (by decide) (fun c_8 => ?_) (fun c_8 => ?_)
    · refine lv_bipush (v := (23 : Int32)) hx hb dX3_array_28 (by decide) ?_
      refine lv_istore_n (lv' := [(2, .int (23 : Int32)), (0, .ref h3), (1, .int x1)]) hx hb dX3_array_30 rfl hl (by decide) rfl (fun ls hl => ?_)
      exact K_31 18 (23 : Int32) (0 : Int32) _ _ ls (mb_isr (by omega) gz.2 c_7) (by decide) hP hD hS (lv_sub hl [1, 2, 0] rfl) ((if_neg c_7).trans ((if_neg c_8).trans (rfl)))
    · refine lv_bipush (v := (-2 : Int32)) hx hb dX3_array_25 (by decide) ?_
      exact W.iret (v := (-2 : Int32)) hx hb hr (fun t ht hW => ⟨⟨(-2 : Int32), ((0 : Int32), so, fi, el, av, un, ty), rfl, Eq.symm ((if_neg c_7).trans ((if_pos c_8).trans (rfl))), by rw [ht]; exact hP, va_K.moved hW.alike hK, hD⟩, hS.F ht⟩) hS.2.2 dX3_array_27
  · refine lv_iconst (v := (-1 : Int32)) hx hb dX3_array_13 (by decide) ?_
    exact W.iret (v := (-1 : Int32)) hx hb hr (fun t ht hW => ⟨⟨(-1 : Int32), ((0 : Int32), so, fi, el, av, un, ty), rfl, Eq.symm ((if_pos c_7).trans (rfl)), by rw [ht]; exact hP, va_K.moved hW.alike hK, hD⟩, hS.F ht⟩) hS.2.2 dX3_array_14

def f_X2_init : mb_T2 := (f_X1_init.1, f_X1_init.2.1, f_X1_init.2.2.1, f_X1_init.2.2.2.1, f_X1_init.2.2.2.2, (fun _ => 0), (fun _ => 0), (0 : Int32))
set_option maxHeartbeats 4000000 in
set_option maxRecDepth 100000 in
theorem c_X2_init (l : Launch) (dC : Nat → ClassId) (dI : Nat → Nat → Nat) (cyI cyZ cyJ : ClassId) (h2 : Nat) (hs : Nat) : Met l yX2_init wsX2_init ({ frames := 3, cells := 7, slots := 285, locals := 71 }) (va_Pc [.ref h2] (mb_M (dC, dI) (mb_tys cyI cyZ cyJ) hs [(h2, .inr (4, [.null, .null, .null, .int 0]))])) (va_Qv (S := mb_T2) (fun u => u = f_X2_init) (fun u t => ∃ h1 a0 a1 a2 a3 b0 b1 : Nat, mb_at dC dI cyI cyZ cyJ (va_A [(h2, .inr (4, [.null, .null, .null, .int 0]))] hs) [(h2, .inr (4, [.ref h1, .ref b0, .ref b1, .int u.2.2.2.2.2.2.2])), (h1, .inr (3, [.ref a0, .ref a1, .ref a2, .ref a3, .int u.2.2.2.2.1])), (a0, .inl (cyI, 40, .inl u.1)), (a1, .inl (cyZ, 40, .inl u.2.1)), (a2, .inl (cyI, 40, .inl u.2.2.1)), (a3, .inl (cyJ, 40, .inr (.inl u.2.2.2.1))), (b0, .inl (cyI, 60, .inl u.2.2.2.2.2.1)), (b1, .inl (cyJ, 60, .inr (.inl u.2.2.2.2.2.2.1)))] t) (va_A [(h2, .inr (4, [.null, .null, .null, .int 0]))] hs)) 7 285 (va_A [(h2, .inr (4, [.null, .null, .null, .int 0]))] hs) := by
  refine Met.ofW (cc := cX2_init) (maxL := 1) (ret := none) (by decide) rfl ?_
  intro p e s m args below meth c s₁ B hml hv
  obtain ⟨rfl, hsz, hP, hK, hD0⟩ := hv
  have hx := B.exec
  have hb := B.bytes
  have hr := B.returns
  have hts := atoms_spec (ws := wsX2_init) B.pre
  have hown : s.vm.findClass RX2 = some m.cls := findClass_of_methodNamed B.named
  have hlocks := B.notSynchronized
  have hin0 : meth.name = "<init>" := (name_of_methodNamed B.named B.method).1
  subst hsz
  have hD := hD0.self (sz := s.heap.size)
  generalize hAe : va_A [(h2, .inr (4, [.null, .null, .null, .int 0]))] s.heap.size = A at hD ⊢
  have hA : ∀ q : Nat, s.heap.size ≤ q → A q := fun q h => by rw [← hAe]; exact Or.inr h
  have hS : va_S A s.heap s.heap [] := va_S.rf
  have hP : va_P (dC, dI) vwCl [(h2, .inr (4, [.null, .null, .null, .int 0]))] s.heap := hP
  have hin_X1 : ∀ w ∈ wsX10, w ∈ wsX2_init := by decide +kernel
  have hin_X2 : ∀ w ∈ wsX20, w ∈ wsX2_init := by decide +kernel
  have hf_12 := hts (.fieldLink RX2 12 "ConversionTables" "types" "LConversionTables$TypeTable;") (by decide +kernel)
  have hf_16 := hts (.fieldLink RX2 16 "ConversionTables" "objectTypes" "[I") (by decide +kernel)
  have hf_20 := hts (.fieldLink RX2 20 "ConversionTables" "objectBits" "[J") (by decide +kernel)
  have hf_24 := hts (.fieldLink RX2 24 "ConversionTables" "objectCount" "I") (by decide +kernel)
  have hl := lv_entry ([.ref h2]) (n := 1) (Nat.le_of_ble_eq_true rfl)
  rw [lg_entry_eq]
  generalize (lg_sl ([.ref h2]) ++ List.replicate (1 - (lg_sl ([.ref h2])).length) Slot.unset).toArray = ls at hl ⊢
  have hl : lv_has ls 1 [(0, .ref h2)] := hl
  refine lv_aload_n hx hb dX2_init_0 rfl (lv_at hl 0 rfl) ?_
  refine W.objInit hx hb hown (hts (.methodLink RX2 3 objectInit) (by decide +kernel)) (hts (.instanceMethod objectInit) (by decide +kernel)) (hts (.code objectInit ⟨#[0xb1]⟩ 1 none) (by decide +kernel)) rfl (by rw [hml]; exact hl.1) rfl dX2_init_1 (Nat.le_of_ble_eq_true rfl) (Nat.le_of_ble_eq_true rfl) ?_
  refine W.eq (g2 := F0 m 4 ls []) rfl ?_
  refine lv_aload_n hx hb dX2_init_4 rfl (lv_at hl 0 rfl) ?_
  refine va_new (ci := 3) (fs := [.null, .null, .null, .null, .int 0]) (C := RX1) (T := TX1) (N := 5) hx hb hts hin_X1 tyX1 tyX1_ok hown (hts (.classLink RX2 9 RX1) (by decide +kernel)) (hts (.instantiable RX1 5) (by decide +kernel)) (hts (.initialized RX1) (by decide +kernel)) hK hP hD hS hA rfl (fun j hj => by rcases (show j = 0 ∨ j = 1 ∨ j = 2 ∨ j = 3 ∨ j = 4 by omega) with rfl | rfl | rfl | rfl | rfl <;> rfl) (Nat.le_of_ble_eq_true rfl) (Nat.le_of_ble_eq_true rfl) dX2_init_5 (fun h1 H hP hD hS => ?_)
  have hP : va_P (dC, dI) vwCl [(h2, .inr (4, [.null, .null, .null, .int 0])), (h1, .inr (3, [.null, .null, .null, .null, .int 0]))] H := hP
  have hD : va_D A [(h2, .inr (4, [.null, .null, .null, .int 0])), (h1, .inr (3, [.null, .null, .null, .null, .int 0]))] := hD
  refine lv_dup hx hb dX2_init_8 rfl ?_
  have hPc := hP.sub (ws' := [(h1, .inr (3, [.null, .null, .null, .null, .int 0]))]) [1] rfl
  have hDc := hD.sub (ws' := [(h1, .inr (3, [.null, .null, .null, .null, .int 0]))]) [1] (by decide) rfl
  have hFc := va_free (wc := [(h1, .inr (3, [.null, .null, .null, .null, .int 0]))]) hD hS hA [1] rfl
  refine mb_callv (va_runI (As := []) (rest := [.ref h1, .ref h2]) ⟨hx, hb, hml, hown, hts⟩ (c_X1_init l dC dI cyI cyZ cyJ h1 H.size) (cwI 0 hts gX2_init_X1_init rfl rfl rfl (hts (.initialized RX1) (by decide +kernel)) (hts (.methodLink RX2 11 yX1_init) (by decide +kernel)) (hts (.instanceMethod yX1_init) (by decide +kernel)) rfl (by decide +kernel) ⟨Nat.le_of_ble_eq_true rfl, Nat.le_of_ble_eq_true rfl⟩) (mb_preMI hK hPc hDc) rfl rfl hl.1 rfl (lv_room (Nat.le_of_ble_eq_true rfl)) dX2_init_9 ⟨Nat.le_of_ble_eq_true rfl, Nat.le_of_ble_eq_true rfl⟩) hS (fun q _ h => hFc q h) hFc (fun tq H locs htq hvmq hBq hk1 hS => ?_)
  obtain ⟨a0, a1, a2, a3, hP1, hK1, hD1⟩ := hBq
  rw [htq] at hP1
  obtain ⟨hP, hD⟩ := va_join (wr := [(h2, .inr (4, [.null, .null, .null, .int 0]))]) (w1 := [(h1, .inr (3, [.ref a0, .ref a1, .ref a2, .ref a3, .int f_X1_init.2.2.2.2])), (a0, .inl (cyI, 40, .inl f_X1_init.1)), (a1, .inl (cyZ, 40, .inl f_X1_init.2.1)), (a2, .inl (cyI, 40, .inl f_X1_init.2.2.1)), (a3, .inl (cyJ, 40, .inr (.inl f_X1_init.2.2.2.1)))]) hP hD [1] [0] rfl rfl (by decide) (by decide) hk1 hFc hP1 hD1
  have hP : va_P (dC, dI) vwCl [(h2, .inr (4, [.null, .null, .null, .int 0])), (h1, .inr (3, [.ref a0, .ref a1, .ref a2, .ref a3, .int f_X1_init.2.2.2.2])), (a0, .inl (cyI, 40, .inl f_X1_init.1)), (a1, .inl (cyZ, 40, .inl f_X1_init.2.1)), (a2, .inl (cyI, 40, .inl f_X1_init.2.2.1)), (a3, .inl (cyJ, 40, .inr (.inl f_X1_init.2.2.2.1)))] H := hP
  have hD : va_D A [(h2, .inr (4, [.null, .null, .null, .int 0])), (h1, .inr (3, [.ref a0, .ref a1, .ref a2, .ref a3, .int f_X1_init.2.2.2.2])), (a0, .inl (cyI, 40, .inl f_X1_init.1)), (a1, .inl (cyZ, 40, .inl f_X1_init.2.1)), (a2, .inl (cyI, 40, .inl f_X1_init.2.2.1)), (a3, .inl (cyJ, 40, .inr (.inl f_X1_init.2.2.2.1)))] := hD
  refine va_putF (D := (dC, dI)) (ci := 4) (v := .ref h1) (ty := (.object "ConversionTables$TypeTable")) (C := RX2) (T := TX2) (N := 4) hx hb hts hin_X2 tyX2 tyX2_ok nmX2 hown hK hP hD hS 0 rfl rfl 0 (by decide) hf_12 (fun _ h9 => h9) rfl hin0 rfl (by decide +kernel) rfl rfl (Nat.le_of_ble_eq_true rfl) dX2_init_12 (fun H locs hP hD hS => ?_)
  have hP : va_P (dC, dI) vwCl [(h2, .inr (4, [.ref h1, .null, .null, .int 0])), (h1, .inr (3, [.ref a0, .ref a1, .ref a2, .ref a3, .int f_X1_init.2.2.2.2])), (a0, .inl (cyI, 40, .inl f_X1_init.1)), (a1, .inl (cyZ, 40, .inl f_X1_init.2.1)), (a2, .inl (cyI, 40, .inl f_X1_init.2.2.1)), (a3, .inl (cyJ, 40, .inr (.inl f_X1_init.2.2.2.1)))] H := hP
  have hD : va_D A [(h2, .inr (4, [.ref h1, .null, .null, .int 0])), (h1, .inr (3, [.ref a0, .ref a1, .ref a2, .ref a3, .int f_X1_init.2.2.2.2])), (a0, .inl (cyI, 40, .inl f_X1_init.1)), (a1, .inl (cyZ, 40, .inl f_X1_init.2.1)), (a2, .inl (cyI, 40, .inl f_X1_init.2.2.1)), (a3, .inl (cyJ, 40, .inr (.inl f_X1_init.2.2.2.1)))] := hD
  refine lv_aload_n hx hb dX2_init_15 rfl (lv_at hl 0 rfl) ?_
  refine lv_bipush (v := (60 : Int32)) hx hb dX2_init_16 (by decide) ?_
  refine mb_newa (atype := .int) (ty := .int) (a0 := (60, .inl (fun _ => 0))) (N' := 60) hx hb (hts (.arrayClass .int) (by decide +kernel)) rfl hK hP hD hS hA 0 rfl (fun C h => by cases h) (mb_dI 60) (by decide) (by decide) (Nat.le_of_ble_eq_true rfl) (Nat.le_of_ble_eq_true rfl) (Nat.le_of_ble_eq_true rfl) dX2_init_18 (fun b0 H hP hD hS => ?_)
  have hP : va_P (dC, dI) vwCl [(h2, .inr (4, [.ref h1, .null, .null, .int 0])), (h1, .inr (3, [.ref a0, .ref a1, .ref a2, .ref a3, .int f_X1_init.2.2.2.2])), (a0, .inl (cyI, 40, .inl f_X1_init.1)), (a1, .inl (cyZ, 40, .inl f_X1_init.2.1)), (a2, .inl (cyI, 40, .inl f_X1_init.2.2.1)), (a3, .inl (cyJ, 40, .inr (.inl f_X1_init.2.2.2.1))), (b0, .inl (cyI, 60, .inl (fun _ => 0)))] H := hP
  have hD : va_D A [(h2, .inr (4, [.ref h1, .null, .null, .int 0])), (h1, .inr (3, [.ref a0, .ref a1, .ref a2, .ref a3, .int f_X1_init.2.2.2.2])), (a0, .inl (cyI, 40, .inl f_X1_init.1)), (a1, .inl (cyZ, 40, .inl f_X1_init.2.1)), (a2, .inl (cyI, 40, .inl f_X1_init.2.2.1)), (a3, .inl (cyJ, 40, .inr (.inl f_X1_init.2.2.2.1))), (b0, .inl (cyI, 60, .inl (fun _ => 0)))] := hD
  refine va_putF (D := (dC, dI)) (ci := 4) (v := .ref b0) (ty := (.array .int)) (C := RX2) (T := TX2) (N := 4) hx hb hts hin_X2 tyX2 tyX2_ok nmX2 hown hK hP hD hS 0 rfl rfl 1 (by decide) hf_16 (fun _ h9 => h9) rfl hin0 rfl (by decide +kernel) rfl rfl (Nat.le_of_ble_eq_true rfl) dX2_init_20 (fun H locs hP hD hS => ?_)
  have hP : va_P (dC, dI) vwCl [(h2, .inr (4, [.ref h1, .ref b0, .null, .int 0])), (h1, .inr (3, [.ref a0, .ref a1, .ref a2, .ref a3, .int f_X1_init.2.2.2.2])), (a0, .inl (cyI, 40, .inl f_X1_init.1)), (a1, .inl (cyZ, 40, .inl f_X1_init.2.1)), (a2, .inl (cyI, 40, .inl f_X1_init.2.2.1)), (a3, .inl (cyJ, 40, .inr (.inl f_X1_init.2.2.2.1))), (b0, .inl (cyI, 60, .inl (fun _ => 0)))] H := hP
  have hD : va_D A [(h2, .inr (4, [.ref h1, .ref b0, .null, .int 0])), (h1, .inr (3, [.ref a0, .ref a1, .ref a2, .ref a3, .int f_X1_init.2.2.2.2])), (a0, .inl (cyI, 40, .inl f_X1_init.1)), (a1, .inl (cyZ, 40, .inl f_X1_init.2.1)), (a2, .inl (cyI, 40, .inl f_X1_init.2.2.1)), (a3, .inl (cyJ, 40, .inr (.inl f_X1_init.2.2.2.1))), (b0, .inl (cyI, 60, .inl (fun _ => 0)))] := hD
  refine lv_aload_n hx hb dX2_init_23 rfl (lv_at hl 0 rfl) ?_
  refine lv_bipush (v := (60 : Int32)) hx hb dX2_init_24 (by decide) ?_
  refine mb_newa (atype := .long) (ty := .long) (a0 := (60, .inr (.inl (fun _ => 0)))) (N' := 60) hx hb (hts (.arrayClass .long) (by decide +kernel)) rfl hK hP hD hS hA 2 rfl (fun C h => by cases h) (mb_dJ 60) (by decide) (by decide) (Nat.le_of_ble_eq_true rfl) (Nat.le_of_ble_eq_true rfl) (Nat.le_of_ble_eq_true rfl) dX2_init_26 (fun b1 H hP hD hS => ?_)
  have hP : va_P (dC, dI) vwCl [(h2, .inr (4, [.ref h1, .ref b0, .null, .int 0])), (h1, .inr (3, [.ref a0, .ref a1, .ref a2, .ref a3, .int f_X1_init.2.2.2.2])), (a0, .inl (cyI, 40, .inl f_X1_init.1)), (a1, .inl (cyZ, 40, .inl f_X1_init.2.1)), (a2, .inl (cyI, 40, .inl f_X1_init.2.2.1)), (a3, .inl (cyJ, 40, .inr (.inl f_X1_init.2.2.2.1))), (b0, .inl (cyI, 60, .inl (fun _ => 0))), (b1, .inl (cyJ, 60, .inr (.inl (fun _ => 0))))] H := hP
  have hD : va_D A [(h2, .inr (4, [.ref h1, .ref b0, .null, .int 0])), (h1, .inr (3, [.ref a0, .ref a1, .ref a2, .ref a3, .int f_X1_init.2.2.2.2])), (a0, .inl (cyI, 40, .inl f_X1_init.1)), (a1, .inl (cyZ, 40, .inl f_X1_init.2.1)), (a2, .inl (cyI, 40, .inl f_X1_init.2.2.1)), (a3, .inl (cyJ, 40, .inr (.inl f_X1_init.2.2.2.1))), (b0, .inl (cyI, 60, .inl (fun _ => 0))), (b1, .inl (cyJ, 60, .inr (.inl (fun _ => 0))))] := hD
  refine va_putF (D := (dC, dI)) (ci := 4) (v := .ref b1) (ty := (.array .long)) (C := RX2) (T := TX2) (N := 4) hx hb hts hin_X2 tyX2 tyX2_ok nmX2 hown hK hP hD hS 0 rfl rfl 2 (by decide) hf_20 (fun _ h9 => h9) rfl hin0 rfl (by decide +kernel) rfl rfl (Nat.le_of_ble_eq_true rfl) dX2_init_28 (fun H locs hP hD hS => ?_)
  have hP : va_P (dC, dI) vwCl [(h2, .inr (4, [.ref h1, .ref b0, .ref b1, .int 0])), (h1, .inr (3, [.ref a0, .ref a1, .ref a2, .ref a3, .int f_X1_init.2.2.2.2])), (a0, .inl (cyI, 40, .inl f_X1_init.1)), (a1, .inl (cyZ, 40, .inl f_X1_init.2.1)), (a2, .inl (cyI, 40, .inl f_X1_init.2.2.1)), (a3, .inl (cyJ, 40, .inr (.inl f_X1_init.2.2.2.1))), (b0, .inl (cyI, 60, .inl (fun _ => 0))), (b1, .inl (cyJ, 60, .inr (.inl (fun _ => 0))))] H := hP
  have hD : va_D A [(h2, .inr (4, [.ref h1, .ref b0, .ref b1, .int 0])), (h1, .inr (3, [.ref a0, .ref a1, .ref a2, .ref a3, .int f_X1_init.2.2.2.2])), (a0, .inl (cyI, 40, .inl f_X1_init.1)), (a1, .inl (cyZ, 40, .inl f_X1_init.2.1)), (a2, .inl (cyI, 40, .inl f_X1_init.2.2.1)), (a3, .inl (cyJ, 40, .inr (.inl f_X1_init.2.2.2.1))), (b0, .inl (cyI, 60, .inl (fun _ => 0))), (b1, .inl (cyJ, 60, .inr (.inl (fun _ => 0))))] := hD
  refine lv_aload_n hx hb dX2_init_31 rfl (lv_at hl 0 rfl) ?_
  refine lv_iconst (v := (0 : Int32)) hx hb dX2_init_32 (by decide) ?_
  refine va_put (D := (dC, dI)) (ci := 4) (v := .int (0 : Int32)) (ty := .int) (C := RX2) (T := TX2) (N := 4) hx hb hts hin_X2 tyX2 tyX2_ok nmX2 hown hK hP hD hS 0 rfl rfl 3 (by decide) hf_24 (fun _ h9 => h9) rfl (by decide +kernel) rfl rfl (Nat.le_of_ble_eq_true rfl) dX2_init_33 (fun H locs hP hD hS => ?_)
  have hP : va_P (dC, dI) vwCl [(h2, .inr (4, [.ref h1, .ref b0, .ref b1, .int (0 : Int32)])), (h1, .inr (3, [.ref a0, .ref a1, .ref a2, .ref a3, .int f_X1_init.2.2.2.2])), (a0, .inl (cyI, 40, .inl f_X1_init.1)), (a1, .inl (cyZ, 40, .inl f_X1_init.2.1)), (a2, .inl (cyI, 40, .inl f_X1_init.2.2.1)), (a3, .inl (cyJ, 40, .inr (.inl f_X1_init.2.2.2.1))), (b0, .inl (cyI, 60, .inl (fun _ => 0))), (b1, .inl (cyJ, 60, .inr (.inl (fun _ => 0))))] H := hP
  have hD : va_D A [(h2, .inr (4, [.ref h1, .ref b0, .ref b1, .int (0 : Int32)])), (h1, .inr (3, [.ref a0, .ref a1, .ref a2, .ref a3, .int f_X1_init.2.2.2.2])), (a0, .inl (cyI, 40, .inl f_X1_init.1)), (a1, .inl (cyZ, 40, .inl f_X1_init.2.1)), (a2, .inl (cyI, 40, .inl f_X1_init.2.2.1)), (a3, .inl (cyJ, 40, .inr (.inl f_X1_init.2.2.2.1))), (b0, .inl (cyI, 60, .inl (fun _ => 0))), (b1, .inl (cyJ, 60, .inr (.inl (fun _ => 0))))] := hD
  exact W.vret hx hb hr (fun t ht hW => ⟨⟨(f_X1_init.1, f_X1_init.2.1, f_X1_init.2.2.1, f_X1_init.2.2.2.1, f_X1_init.2.2.2.2, (fun _ => 0), (fun _ => 0), (0 : Int32)), rfl, Eq.symm (rfl), h1, a0, a1, a2, a3, b0, b1, by rw [ht]; exact hP, va_K.moved hW.alike hK, hD⟩, hS.F ht⟩) hS.2.2 dX2_init_36

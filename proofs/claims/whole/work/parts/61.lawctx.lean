/-! the law: what stands through its loop -/
abbrev lw_A (s : State) : Nat → Prop := fun q => s.heap.size ≤ q
abbrev lw_l (b h2 h3 o0 i : Nat) : List (Nat × Value) := [(0, .ref b), (1, .ref h2), (2, .ref h3), (3, .ref o0), (4, .int (nI i))]
def lw_J (s : State) (dC : Nat → ClassId) (dI : Nat → Nat → Nat) (cyI cyZ cyJ : ClassId) (h2 h1 a0 a1 a2 a3 b0 b1 h3 e0 e1 e2 e3 e4 e5 e6 o0 : Nat) (so : Nat → Int32) (fi : Nat → Int32) (el : Nat → Int32) (ab : Nat → Int64) (sz : Int32) (ot : Nat → Int32) (ob : Nat → Int64) (oc : Int32) (th : Int32) (ro : Nat → Int32) (rf : Nat → Int32) (re : Nat → Int32) (av : Nat → Int32) (un : Nat → Int32) (ty : Int32) (kp : Nat → Int32) (bt : Nat → Int64) (rk : Int32) (ow : Nat → Int64) (H : Heap) (locs : List Loc) : Prop :=
  va_P (dC, dI) vwCl [(h2, .inr (4, [.ref h1, .ref b0, .ref b1, .int oc])), (h1, .inr (3, [.ref a0, .ref a1, .ref a2, .ref a3, .int sz])), (a0, .inl (cyI, 40, .inl so)), (a1, .inl (cyZ, 40, .inl fi)), (a2, .inl (cyI, 40, .inl el)), (a3, .inl (cyJ, 40, .inr (.inl ab))), (b0, .inl (cyI, 60, .inl ot)), (b1, .inl (cyJ, 60, .inr (.inl ob))), (h3, .inr (5, [.int th, .int ty, .ref e0, .ref e1, .ref e2, .ref e3, .ref e4, .int rk, .ref e5, .ref e6])), (e0, .inl (cyI, 40, .inl ro)), (e1, .inl (cyZ, 40, .inl rf)), (e2, .inl (cyI, 40, .inl re)), (e3, .inl (cyI, 120, .inl av)), (e4, .inl (cyZ, 1600, .inl un)), (e5, .inl (cyI, 60, .inl kp)), (e6, .inl (cyJ, 60, .inr (.inl bt))), (o0, .inl (cyJ, 1, .inr (.inl ow)))] H ∧ va_D (lw_A s) [(h2, .inr (4, [.ref h1, .ref b0, .ref b1, .int oc])), (h1, .inr (3, [.ref a0, .ref a1, .ref a2, .ref a3, .int sz])), (a0, .inl (cyI, 40, .inl so)), (a1, .inl (cyZ, 40, .inl fi)), (a2, .inl (cyI, 40, .inl el)), (a3, .inl (cyJ, 40, .inr (.inl ab))), (b0, .inl (cyI, 60, .inl ot)), (b1, .inl (cyJ, 60, .inr (.inl ob))), (h3, .inr (5, [.int th, .int ty, .ref e0, .ref e1, .ref e2, .ref e3, .ref e4, .int rk, .ref e5, .ref e6])), (e0, .inl (cyI, 40, .inl ro)), (e1, .inl (cyZ, 40, .inl rf)), (e2, .inl (cyI, 40, .inl re)), (e3, .inl (cyI, 120, .inl av)), (e4, .inl (cyZ, 1600, .inl un)), (e5, .inl (cyI, 60, .inl kp)), (e6, .inl (cyJ, 60, .inr (.inl bt))), (o0, .inl (cyJ, 1, .inr (.inl ow)))] ∧ va_S (lw_A s) s.heap H locs ∧ Inv (so, fi, el, ab, sz, ot, ob, oc) (th, ro, rf, re, av, un, ty, kp, bt, rk)
def lw_K (p : Program) (l : Launch) (s : State) (m : MethodId) (meth : Method) (c : Code) (b L : Nat) (xs : Nat → Int32) (dC : Nat → ClassId) (dI : Nat → Nat → Nat) (cyI cyZ cyJ : ClassId) (tK tL tG : Nat) (ad : Nat → Nat) : Prop :=
  p.tables.exec = Jvm.exec ∧ c.code = code ∧ meth.sig.returnType = ret ∧ c.maxLocals = 8 ∧ s.vm.findClass RL = some m.cls ∧ (∀ w ∈ lw_tbl, w.before #[Value.ref b] s = true) ∧ va_X b L xs s s.heap ∧ b < s.heap.size ∧ meth.locks = false ∧
  L ≤ 320 ∧ l.stackTraces = false ∧ va_K (dC, dI) vwCl (mb_tys cyI cyZ cyJ) s ∧ mb_G tK tL tG ad (lw_A s) s s.heap ∧ mb_TH (lw_A s) s s.heap ∧ va_Nc RJx5d777 RJx3273f s
theorem lw_in {i L : Nat} (k : Nat) (hi : i + 5 ≤ L) (hL : L ≤ 320) (hk : k < 5) : vp_in (nI i + nI k) L := by
  rw [nI_add]
  exact nI_in (by omega) (by omega)
def f_X3_thrown (th : Int32) (so : Nat → Int32) (fi : Nat → Int32) (el : Nat → Int32) (av : Nat → Int32) (un : Nat → Int32) (ty : Int32) (kp : Nat → Int32) (bt : Nat → Int64) (oc : Int32) : Int32 := th
set_option maxHeartbeats 4000000 in
set_option maxRecDepth 100000 in
theorem c_X3_thrown (l : Launch) (dC : Nat → ClassId) (dI : Nat → Nat → Nat) (cyI cyZ cyJ : ClassId) (h3 e0 e1 e2 e3 e4 e5 e6 : Nat) (th : Int32) (so : Nat → Int32) (fi : Nat → Int32) (el : Nat → Int32) (av : Nat → Int32) (un : Nat → Int32) (ty : Int32) (kp : Nat → Int32) (bt : Nat → Int64) (oc : Int32) : Met l yX3_thrown wsX3_thrown ({ frames := 0, cells := 0, slots := 0, locals := 0 }) (va_Pc [.ref h3] (mb_R (dC, dI) (mb_tys cyI cyZ cyJ) [(h3, .inr (5, [.int th, .int ty, .ref e0, .ref e1, .ref e2, .ref e3, .ref e4, .int oc, .ref e5, .ref e6])), (e0, .inl (cyI, 40, .inl so)), (e1, .inl (cyZ, 40, .inl fi)), (e2, .inl (cyI, 40, .inl el)), (e3, .inl (cyI, 120, .inl av)), (e4, .inl (cyZ, 1600, .inl un)), (e5, .inl (cyI, 60, .inl kp)), (e6, .inl (cyJ, 60, .inr (.inl bt)))])) (vp_Si (fun r => r = th)) 0 0 (fun _ => False) := by
  refine Met.ofW (cc := cX3_thrown) (maxL := 1) (ret := (some .int)) (by decide) rfl ?_
  intro p e s m args below meth c s₁ B hml hv
  obtain ⟨rfl, hP, hK⟩ := hv
  have hx := B.exec
  have hb := B.bytes
  have hr := B.returns
  have hts := atoms_spec (ws := wsX3_thrown) B.pre
  have hown : s.vm.findClass RX3 = some m.cls := findClass_of_methodNamed B.named
  have hlocks := B.notSynchronized
  have hP : va_P (dC, dI) vwCl [(h3, .inr (5, [.int th, .int ty, .ref e0, .ref e1, .ref e2, .ref e3, .ref e4, .int oc, .ref e5, .ref e6])), (e0, .inl (cyI, 40, .inl so)), (e1, .inl (cyZ, 40, .inl fi)), (e2, .inl (cyI, 40, .inl el)), (e3, .inl (cyI, 120, .inl av)), (e4, .inl (cyZ, 1600, .inl un)), (e5, .inl (cyI, 60, .inl kp)), (e6, .inl (cyJ, 60, .inr (.inl bt)))] s.heap := hP
  have hin_X3 : ∀ w ∈ wsX30, w ∈ wsX3_thrown := by decide +kernel
  have hf := hts (.fieldLink RX3 40 "ConversionTablesModel" "thrown" "I") (by decide +kernel)
  have hl := lv_entry ([.ref h3]) (n := 1) (Nat.le_of_ble_eq_true rfl)
  rw [lg_entry_eq]
  generalize (lg_sl ([.ref h3]) ++ List.replicate (1 - (lg_sl ([.ref h3])).length) Slot.unset).toArray = ls at hl ⊢
  have hl : lv_has ls 1 [(0, .ref h3)] := hl
  refine lv_aload_n hx hb dX3_thrown_0 rfl (lv_at hl 0 rfl) ?_
  refine va_get (D := (dC, dI)) (ci := 5) (v := .int th) (C := RX3) (T := TX3) (N := 10) hx hb hts hin_X3 hown hK hP 0 rfl rfl 0 (by decide) hf (fun _ h9 => h9) rfl dX3_thrown_1 ?_
  exact W.iret (v := th) hx hb hr (fun t ht hW => ⟨th, rfl, rfl, ht⟩) (fun q h => by cases h) dX3_thrown_4
theorem gk_own : GoodIn lw_tbl [Cond.classLink RL 8 RX2, Cond.classLink RL 18 RX3, Cond.instantiable RX2 4, Cond.instantiable RX3 10, Cond.initialized RX2, Cond.initialized RX3, Cond.methodLink RL 17 yX2_init, Cond.instanceMethod yX2_init, Cond.methodLink RL 20 yX3_init, Cond.instanceMethod yX3_init, Cond.arrayClass .long, Cond.constantLong RL 49 4294967295] := goodIn_r _ [53, 547, 54, 548, 40, 42, 55, 56, 549, 550, 92, 775] (by decide +kernel) (by decide +kernel)

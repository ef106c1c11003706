/-! the skeleton's words, then the loop -/
def R_law : String := "ConversionTablesLaw"
def lw_P (b : Addr) (xs : List Int32) (args : Array Value) (s : State) : Prop := args = #[.ref b] ∧ s.IntsAt b xs ∧ xs.length ≤ 320 ∧ (Jvm.Cond.and given_1 narrow_1).before args s = true
def lw_Q (_ : Array Value) (s : State) (o : Outcome) (t : State) : Prop := o = .returned (some (.int 1)) ∧ Framed s o t [] 600128 7301098
def lw_Z (below : List Frame) (a : Array Value) (s : State) : State → Prop := fun t => ∃ o, t.status = .running ∧ Ended t below o ∧ lw_Q a s o t
/-- the law's own end, with 1 on the stack, nothing written that was there before, its room as the claim has it -/
theorem lw_ret {p : Program} {l : Launch} {e : Env} {s : State} {m : MethodId} {below : List Frame} {meth : Method} {c : Code} {b : Nat} (hx : p.tables.exec = Jvm.exec) (hb : c.code = code) (hr : meth.sig.returnType = ret) (hlocks : meth.locks = false) {pc : Nat} {H : Heap} {ls : Array Slot} (hdg : decode code pc = .ok (.ireturn, 1)) : W p l e room_1 s m #[Value.ref b] below meth c H [] 600128 7301098 (lw_Z below #[Value.ref b] s) (F0 m pc ls [.int 1]) := by
  intro T hT X
  obtain ⟨fs, hret, hrun, hended, hW, hframe⟩ := X.leave (v := some (.int 1)) (hlocks := hlocks) (fun h => by rw [hr] at h; cases h)
  have hmeth' : T.vm.method? m = some meth := X.method'
  refine ⟨T.setFrames fs, ?_, .returned (some (.int 1)), hrun, hended, rfl, ⟨_, rfl⟩, hW, hframe⟩
  jvm_step X.here [X.here.top, hx, hb, hdg, hmeth', hr, ret, narrow_b1]
  (try refine ⟨rfl, ?_⟩); (try refine ⟨rfl, ?_⟩)
  first | (intro acts; rw [hret _ acts rfl rfl rfl]) | rw [hret _ _ rfl rfl rfl]
  exact Steps.refl _
/-- what holds at the law's entry: the machine, the code, the tables' words (any of lw_tbl by 'hts w (by decide +kernel)'), the script of L ints xs at the cell b, what the Statement gives of the start (any of its parts by flat_of_before) -/
def lw_At (p : Program) (s : State) (m : MethodId) (meth : Method) (c : Code) (b L : Nat) (xs : Nat → Int32) : Prop :=
  p.tables.exec = Jvm.exec ∧ c.code = code ∧ meth.sig.returnType = ret ∧ c.maxLocals = 8 ∧ s.vm.findClass R_law = some m.cls ∧ (∀ w ∈ lw_tbl, w.before #[Value.ref b] s = true) ∧ va_X b L xs s s.heap ∧ b < s.heap.size ∧ meth.locks = false ∧ (Jvm.Cond.and given_1 narrow_1).before #[Value.ref b] s = true
theorem lw_31 (x : Int32) : 0 ≤ (x &&& 31).toInt ∧ (x &&& 31).toInt ≤ 31 := by
  have h1 : (x &&& 31).toBitVec.toNat ≤ 31 := by
    rw [Int32.toBitVec_and, BitVec.toNat_and]
    exact Nat.le_trans Nat.and_le_right (by decide)
  have h2 : (x &&& 31).toInt = ((x &&& 31).toBitVec.toNat : Int) := by
    show (x &&& 31).toBitVec.toInt = _
    rw [BitVec.toInt_eq_toNat_cond, if_pos (by omega)]
  omega
theorem lw_len5 {L : Nat} (hL : L ≤ 320) : (Int32.ofNat L - 5).toInt = (L : Int) - 5 := by
  rw [Int32.toInt_sub, show (Int32.ofNat L).toInt = (L : Int) from nI_toInt (n := L) (by omega)]
  rw [show (5 : Int32).toInt = 5 from rfl, Int.bmod_eq_of_le (by omega) (by omega)]
set_option maxHeartbeats 4000000 in
set_option maxRecDepth 100000 in
theorem lw_head {p : Program} {l : Launch} {e : Env} {s : State} {m : MethodId} {below : List Frame} {meth : Method} {c : Code} {b L : Nat} {xs : Nat → Int32} {dC : Nat → ClassId} {dI : Nat → Nat → Nat} {cyI cyZ cyJ : ClassId} {tK tL tG : Nat} {ad : Nat → Nat} {h2 h1 a0 a1 a2 a3 b0 b1 h3 e0 e1 e2 e3 e4 e5 e6 o0 : Nat} {so : Nat → Int32} {fi : Nat → Int32} {el : Nat → Int32} {ab : Nat → Int64} {sz : Int32} {ot : Nat → Int32} {ob : Nat → Int64} {oc : Int32} {th : Int32} {ro : Nat → Int32} {rf : Nat → Int32} {re : Nat → Int32} {av : Nat → Int32} {un : Nat → Int32} {ty : Int32} {kp : Nat → Int32} {bt : Nat → Int64} {rk : Int32} {ow : Nat → Int64} {H : Heap} {locs : List Loc} {cells slots i : Nat} {Q : State → Prop} {ls : Array Slot} (hC : lw_K p l s m meth c b L xs dC dI cyI cyZ cyJ tK tL tG ad) (hJ : lw_J s dC dI cyI cyZ cyJ h2 h1 a0 a1 a2 a3 b0 b1 h3 e0 e1 e2 e3 e4 e5 e6 o0 so fi el ab sz ot ob oc th ro rf re av un ty kp bt rk ow H locs) (hl : lv_has ls 8 (lw_l b h2 h3 o0 i)) (hi : i ≤ L) (KE : ¬ i + 5 ≤ L → W p l e room_1 s m #[Value.ref b] below meth c H locs cells slots Q (F0 m 939 ls [])) (KB : i + 5 ≤ L → ∀ y : Int32, 0 ≤ y.toInt → y.toInt ≤ 31 → W p l e room_1 s m #[Value.ref b] below meth c H locs cells slots Q (F0 m 39 ls [.int y])) : W p l e room_1 s m #[Value.ref b] below meth c H locs cells slots Q (F0 m 23 ls []) := by
  obtain ⟨hx, hb, hr, hml, hown, hts, hX, hbl, hlocks, hL, hl0, hK, hG, hTH, hNc⟩ := hC
  obtain ⟨hP, hD, hS, hI⟩ := hJ
  have hbA : ¬ lw_A s b := Nat.not_le.mpr hbl
  have hl : lv_has ls 8 [(0, .ref b), (1, .ref h2), (2, .ref h3), (3, .ref o0), (4, .int (nI i))] := hl
  refine lv_iload hx hb dL_law_23 (lv_at hl 4 rfl) ?_
  refine lv_aload_n hx hb dL_law_25 rfl (lv_at hl 0 rfl) ?_
  refine va_slen hx hb hX hbl hbA hS dL_law_26 ?_
  refine lv_iconst (v := (5 : Int32)) hx hb dL_law_27 (by decide) ?_
  refine lv_isub hx hb dL_law_28 ?_
  have hq : Int32.ofNat L - 5 < nI i ↔ ¬ i + 5 ≤ L := by
    rw [Int32.lt_iff_toInt_lt, lw_len5 hL, nI_toInt (by omega)]; omega
  refine lv_icmp_gt (tgt := 939) hx hb dL_law_29 (by decide) (fun c_1 => KE (hq.mp c_1)) (fun c_1 => ?_)
  have h5 : i + 5 ≤ L := Nat.le_of_not_lt fun h => c_1 (hq.mpr (by omega))
  refine lv_aload_n hx hb dL_law_32 rfl (lv_at hl 0 rfl) ?_
  refine lv_iload hx hb dL_law_33 (lv_at hl 4 rfl) ?_
  refine va_sld hx hb hX hbl hbA hS (nI_in (c := i) (N := L) (by omega) (by omega)) dL_law_35 ?_
  refine lv_bipush (v := (31 : Int32)) hx hb dL_law_36 (by decide) ?_
  refine lv_iand hx hb dL_law_38 ?_
  exact KB h5 _ (lw_31 _).1 (lw_31 _).2
set_option maxHeartbeats 4000000 in
set_option maxRecDepth 100000 in
theorem lw_loop {p : Program} {l : Launch} {e : Env} {s : State} {m : MethodId} {below : List Frame} {meth : Method} {c : Code} {b L : Nat} {xs : Nat → Int32} {dC : Nat → ClassId} {dI : Nat → Nat → Nat} {cyI cyZ cyJ : ClassId} {tK tL tG : Nat} {ad : Nat → Nat} {h2 h1 a0 a1 a2 a3 b0 b1 h3 e0 e1 e2 e3 e4 e5 e6 o0 : Nat} (hC : lw_K p l s m meth c b L xs dC dI cyI cyZ cyJ tK tL tG ad) : ∀ (k i cells slots : Nat) (so : Nat → Int32) (fi : Nat → Int32) (el : Nat → Int32) (ab : Nat → Int64) (sz : Int32) (ot : Nat → Int32) (ob : Nat → Int64) (oc : Int32) (th : Int32) (ro : Nat → Int32) (rf : Nat → Int32) (re : Nat → Int32) (av : Nat → Int32) (un : Nat → Int32) (ty : Int32) (kp : Nat → Int32) (bt : Nat → Int64) (rk : Int32) (ow : Nat → Int64) (H : Heap) (locs : List Loc) (ls : Array Slot), i ≤ L → L ≤ i + 5 * k + 4 → cells + k ≤ 600128 → slots + 8 * k ≤ 7301098 → lw_J s dC dI cyI cyZ cyJ h2 h1 a0 a1 a2 a3 b0 b1 h3 e0 e1 e2 e3 e4 e5 e6 o0 so fi el ab sz ot ob oc th ro rf re av un ty kp bt rk ow H locs → lv_has ls 8 (lw_l b h2 h3 o0 i) → W p l e room_1 s m #[Value.ref b] below meth c H locs cells slots (lw_Z below #[Value.ref b] s) (F0 m 23 ls []) := by
  have hx := hC.1
  have hb := hC.2.1
  have KE : ∀ (cells slots : Nat) (H : Heap) (locs : List Loc) (ls : Array Slot), cells ≤ 600128 → slots ≤ 7301098 → (∀ q ∈ locs, s.heap.size ≤ q.base) → W p l e room_1 s m #[Value.ref b] below meth c H locs cells slots (lw_Z below #[Value.ref b] s) (F0 m 939 ls []) := by
    intro cells slots H locs ls h1 h2 h3
    refine lv_iconst (v := (1 : Int32)) hx hb dL_law_939 (by decide) ?_
    refine va_forget h3 ?_
    refine W.widen h1 h2 ?_
    exact lw_ret hx hb hC.2.2.1 hC.2.2.2.2.2.2.2.2.1 dL_law_940
  intro k
  induction k with
  | zero =>
    intro i cells slots so fi el ab sz ot ob oc th ro rf re av un ty kp bt rk ow H locs ls hi hk hcc hss hJ hl
    exact lw_head hC hJ hl hi (fun _ => KE cells slots H locs ls (by omega) (by omega) hJ.2.2.1.2.2) (fun h => absurd h (by omega))
  | succ k ih =>
    intro i cells slots so fi el ab sz ot ob oc th ro rf re av un ty kp bt rk ow H locs ls hi hk hcc hss hJ hl
    refine lw_head hC hJ hl hi (fun _ => KE cells slots H locs ls (by omega) (by omega) hJ.2.2.1.2.2) (fun h5 y hy0 hy1 => ?_)
    have K : ∀ (so : Nat → Int32) (fi : Nat → Int32) (el : Nat → Int32) (ab : Nat → Int64) (sz : Int32) (ot : Nat → Int32) (ob : Nat → Int64) (oc : Int32) (th : Int32) (ro : Nat → Int32) (rf : Nat → Int32) (re : Nat → Int32) (av : Nat → Int32) (un : Nat → Int32) (ty : Int32) (kp : Nat → Int32) (bt : Nat → Int64) (rk : Int32) (ow : Nat → Int64) (H : Heap) (locs : List Loc) (ls : Array Slot), lw_J s dC dI cyI cyZ cyJ h2 h1 a0 a1 a2 a3 b0 b1 h3 e0 e1 e2 e3 e4 e5 e6 o0 so fi el ab sz ot ob oc th ro rf re av un ty kp bt rk ow H locs → lv_has ls 8 (lw_l b h2 h3 o0 i) → W p l e room_1 s m #[Value.ref b] below meth c H locs (cells + 1) (slots + 8) (lw_Z below #[Value.ref b] s) (F0 m 933 ls []) := by
      intro so fi el ab sz ot ob oc th ro rf re av un ty kp bt rk ow H locs ls hJ hl
      have hl : lv_has ls 8 [(0, .ref b), (1, .ref h2), (2, .ref h3), (3, .ref o0), (4, .int (nI i))] := hl
      refine lv_iinc (v := nI (i + 5)) (lv' := [(4, .int (nI (i + 5))), (0, .ref b), (1, .ref h2), (2, .ref h3), (3, .ref o0)]) hx hb dL_law_933 hl (k := 4) rfl (nI_add i 5) (by decide) rfl (fun ls hl => ?_)
      refine lv_goto (tgt := 23) hx hb dL_law_936 (by decide) ?_
      exact ih (i + 5) (cells + 1) (slots + 8) so fi el ab sz ot ob oc th ro rf re av un ty kp bt rk ow H locs ls h5 (by omega) (by omega) (by omega) hJ (lv_sub hl [1, 2, 3, 4, 0] rfl)
    have K2 := fun (ls : Array Slot) (so : Nat → Int32) (fi : Nat → Int32) (el : Nat → Int32) (ab : Nat → Int64) (sz : Int32) (ot : Nat → Int32) (ob : Nat → Int64) (oc : Int32) (th : Int32) (ro : Nat → Int32) (rf : Nat → Int32) (re : Nat → Int32) (av : Nat → Int32) (un : Nat → Int32) (ty : Int32) (kp : Nat → Int32) (bt : Nat → Int64) (rk : Int32) (ow : Nat → Int64) (H : Heap) (locs : List Loc) => K so fi el ab sz ot ob oc th ro rf re av un ty kp bt rk ow H locs ls
    by_cases hy : y.toInt ≤ 17
    · obtain ⟨j, hj, hyj⟩ : ∃ j : Nat, j ≤ 17 ∧ y.toInt = (j : Int) := ⟨y.toInt.toNat, by omega, by omega⟩
      have hT : ∀ (off : Int) (tgt : Nat), (#[85, 150, 187, 212, 249, 286, 335, 416, 453, 535, 560, 597, 634, 703, 728, 753, 820, 869] : Array Int)[j]? = some off → (39 : Int) + off = (tgt : Int) → W p l e room_1 s m #[Value.ref b] below meth c H locs cells slots (lw_Z below #[Value.ref b] s) (F0 m tgt ls []) → W p l e room_1 s m #[Value.ref b] below meth c H locs cells slots (lw_Z below #[Value.ref b] s) (F0 m 39 ls [.int y]) := by
        intro off tgt ho ht hW
        refine lv_tableIn (off := off) (tgt := tgt) hx hb dL_law_39 (by omega) (by omega) ?_ ht hW
        rw [hyj, show ((j : Int) - 0).toNat = j by omega]; exact ho
      have hi5 := h5
      have h600 : cells + 1 ≤ 600128 := by omega
      have h730 : slots + 8 ≤ 7301098 := by omega
      match j, hj, hT with
      | 0, _, hT => exact hT 85 124 rfl (by decide) (lw_c0 hC hJ hl hi5 h600 h730 K2)
      | 1, _, hT => exact hT 150 189 rfl (by decide) (lw_c1 hC hJ hl hi5 h600 h730 K2)
      | 2, _, hT => exact hT 187 226 rfl (by decide) (lw_c2 hC hJ hl hi5 h600 h730 K2)
      | 3, _, hT => exact hT 212 251 rfl (by decide) (lw_c3 hC hJ hl hi5 h600 h730 K2)
      | 4, _, hT => exact hT 249 288 rfl (by decide) (lw_c4 hC hJ hl hi5 h600 h730 K2)
      | 5, _, hT => exact hT 286 325 rfl (by decide) (lw_c5 hC hJ hl hi5 h600 h730 K2)
      | 6, _, hT => exact hT 335 374 rfl (by decide) (lw_c6 hC hJ hl hi5 h600 h730 K2)
      | 7, _, hT => exact hT 416 455 rfl (by decide) (lw_c7 hC hJ hl hi5 h600 h730 K2)
      | 8, _, hT => exact hT 453 492 rfl (by decide) (lw_c8 hC hJ hl hi5 h600 h730 K2)
      | 9, _, hT => exact hT 535 574 rfl (by decide) (lw_c9 hC hJ hl hi5 h600 h730 K2)
      | 10, _, hT => exact hT 560 599 rfl (by decide) (lw_c10 hC hJ hl hi5 h600 h730 K2)
      | 11, _, hT => exact hT 597 636 rfl (by decide) (lw_c11 hC hJ hl hi5 h600 h730 K2)
      | 12, _, hT => exact hT 634 673 rfl (by decide) (lw_c12 hC hJ hl hi5 h600 h730 K2)
      | 13, _, hT => exact hT 703 742 rfl (by decide) (lw_c13 hC hJ hl hi5 h600 h730 K2)
      | 14, _, hT => exact hT 728 767 rfl (by decide) (lw_c14 hC hJ hl hi5 h600 h730 K2)
      | 15, _, hT => exact hT 753 792 rfl (by decide) (lw_c15 hC hJ hl hi5 h600 h730 K2)
      | 16, _, hT => exact hT 820 859 rfl (by decide) (lw_c16 hC hJ hl hi5 h600 h730 K2)
      | 17, _, hT => exact hT 869 908 rfl (by decide) (lw_c17 hC hJ hl hi5 h600 h730 K2)
      | j + 18, hj, _ => exact absurd hj (by omega)
    · exact lv_tableOut (tgt := 933) hx hb dL_law_39 (Or.inr (by omega)) (by decide) (W.widen (by omega) (by omega) (K so fi el ab sz ot ob oc th ro rf re av un ty kp bt rk ow H locs ls hJ hl))

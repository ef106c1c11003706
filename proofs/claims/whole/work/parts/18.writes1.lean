theorem mb_le40 {x : Int32} (h : vp_in x 40) : x.toInt ≤ 40 := by have := vp_in_iff.mp h; omega
theorem mb_addarr {so el : Nat → Int32} {sz x1 v w : Int32} (ge : mb_EL so el) (g1 : vp_in sz 40) : ∀ x : Int32, vp_in x 40 → ¬ sz ≤ x → upd so sz.toNatClampNeg v x.toNatClampNeg = 3 → vp_in (upd (upd el sz.toNatClampNeg w) sz.toNatClampNeg x1 x.toNatClampNeg) 40 := by
  intro x hx hlt h3
  obtain ⟨i, hi, rfl⟩ := vp_in_of hx (by decide)
  obtain ⟨j, hj, rfl⟩ := vp_in_of g1 (by decide)
  rw [nI_clamp (by omega), nI_clamp (by omega)] at h3 ⊢
  have hne : i ≠ j := fun e => hlt (by rw [e]; exact Int32.le_refl _)
  rw [pk_un hne] at h3
  rw [pk_un hne, pk_un hne]
  have := ge.vp hx (by rw [nI_clamp (by omega)]; exact h3)
  rw [nI_clamp (by omega)] at this
  exact this
theorem mb_he {f : Nat → Int32} {k : Nat} {x : Int32} (g : vp_in x 40) : vp_in (upd f k x k) 40 := by rw [pk_us]; exact g
def f_X1_addArray_32 : Nat → (Nat → Int32) → (Nat → Int32) → (Nat → Int32) → (Nat → Int64) → Int32 → Int32 → Int32 → Int32 → (Nat → Int32) → (Nat → Int32) → (Nat → Int32) → (Nat → Int64) → Int32 → Int32 × mb_T1
  | 0, so, fi, el, ab, sz, _, _, _, _, _, _, _, _ => (0, so, fi, el, ab, sz)
  | k + 1, so, fi, el, ab, sz, x1, tt, oo, so2, fi2, el2, ab2, sz2 => if tt ≤ oo then (tt, so2, fi2, el2, ab2, sz2)
  else if (so2 oo.toNatClampNeg) = (3 : Int32) then f_X1_addArray_32 k so fi el ab sz x1 tt (oo + (1 : Int32)) so2 fi2 el2 (f_X1_placeArrays so2 fi2 el2 ab2 sz2 tt oo) sz2
  else f_X1_addArray_32 k so fi el ab sz x1 tt (oo + (1 : Int32)) so2 fi2 el2 ab2 sz2
def f_X1_addArray (so : Nat → Int32) (fi : Nat → Int32) (el : Nat → Int32) (ab : Nat → Int64) (sz : Int32) (x1 : Int32) : Int32 × mb_T1 := f_X1_addArray_32 18 so fi el ab sz x1 ((f_X1_add so fi el ab sz (3 : Int32) (0 : Int32) ((ab (20 : Int32).toNatClampNeg) ||| (ab (19 : Int32).toNatClampNeg))).1) (23 : Int32) ((f_X1_add so fi el ab sz (3 : Int32) (0 : Int32) ((ab (20 : Int32).toNatClampNeg) ||| (ab (19 : Int32).toNatClampNeg))).2.1) ((f_X1_add so fi el ab sz (3 : Int32) (0 : Int32) ((ab (20 : Int32).toNatClampNeg) ||| (ab (19 : Int32).toNatClampNeg))).2.2.1) (upd ((f_X1_add so fi el ab sz (3 : Int32) (0 : Int32) ((ab (20 : Int32).toNatClampNeg) ||| (ab (19 : Int32).toNatClampNeg))).2.2.2.1) ((f_X1_add so fi el ab sz (3 : Int32) (0 : Int32) ((ab (20 : Int32).toNatClampNeg) ||| (ab (19 : Int32).toNatClampNeg))).1).toNatClampNeg x1) ((f_X1_add so fi el ab sz (3 : Int32) (0 : Int32) ((ab (20 : Int32).toNatClampNeg) ||| (ab (19 : Int32).toNatClampNeg))).2.2.2.2.1) ((f_X1_add so fi el ab sz (3 : Int32) (0 : Int32) ((ab (20 : Int32).toNatClampNeg) ||| (ab (19 : Int32).toNatClampNeg))).2.2.2.2.2)
set_option maxHeartbeats 4000000 in
set_option maxRecDepth 100000 in
theorem c_X1_addArray (l : Launch) (dC : Nat → ClassId) (dI : Nat → Nat → Nat) (cyI cyZ cyJ : ClassId) (h1 a0 a1 a2 a3 : Nat) (so : Nat → Int32) (fi : Nat → Int32) (el : Nat → Int32) (ab : Nat → Int64) (sz : Int32) (hs : Nat) (x1 : Int32) (g1 : vp_in sz 40) (g2 : vp_in x1 40) (ge : mb_EL so el) : Met l yX1_addArray wsX1_addArray ({ frames := 3, cells := 0, slots := 0, locals := 70 }) (va_Pc [.ref h1, .int x1] (mb_M (dC, dI) (mb_tys cyI cyZ cyJ) hs [(h1, .inr (3, [.ref a0, .ref a1, .ref a2, .ref a3, .int sz])), (a0, .inl (cyI, 40, .inl so)), (a1, .inl (cyZ, 40, .inl fi)), (a2, .inl (cyI, 40, .inl el)), (a3, .inl (cyJ, 40, .inr (.inl ab)))])) (va_Qi (S := mb_T1) (fun r u => (r, u) = f_X1_addArray so fi el ab sz x1) (fun u t => mb_at dC dI cyI cyZ cyJ (va_A [(h1, .inr (3, [.ref a0, .ref a1, .ref a2, .ref a3, .int sz])), (a0, .inl (cyI, 40, .inl so)), (a1, .inl (cyZ, 40, .inl fi)), (a2, .inl (cyI, 40, .inl el)), (a3, .inl (cyJ, 40, .inr (.inl ab)))] hs) [(h1, .inr (3, [.ref a0, .ref a1, .ref a2, .ref a3, .int u.2.2.2.2])), (a0, .inl (cyI, 40, .inl u.1)), (a1, .inl (cyZ, 40, .inl u.2.1)), (a2, .inl (cyI, 40, .inl u.2.2.1)), (a3, .inl (cyJ, 40, .inr (.inl u.2.2.2.1)))] t) (va_A [(h1, .inr (3, [.ref a0, .ref a1, .ref a2, .ref a3, .int sz])), (a0, .inl (cyI, 40, .inl so)), (a1, .inl (cyZ, 40, .inl fi)), (a2, .inl (cyI, 40, .inl el)), (a3, .inl (cyJ, 40, .inr (.inl ab)))] hs)) 0 0 (va_A [(h1, .inr (3, [.ref a0, .ref a1, .ref a2, .ref a3, .int sz])), (a0, .inl (cyI, 40, .inl so)), (a1, .inl (cyZ, 40, .inl fi)), (a2, .inl (cyI, 40, .inl el)), (a3, .inl (cyJ, 40, .inr (.inl ab)))] hs) := by
  refine Met.ofW (cc := cX1_addArray) (maxL := 4) (ret := (some .int)) (by decide) rfl ?_
  intro p e s m args below meth c s₁ B hml hv
  obtain ⟨rfl, hsz, hP, hK, hD0⟩ := hv
  have hx := B.exec
  have hb := B.bytes
  have hr := B.returns
  have hts := atoms_spec (ws := wsX1_addArray) B.pre
  have hown : s.vm.findClass RX1 = some m.cls := findClass_of_methodNamed B.named
  have hlocks := B.notSynchronized
  subst hsz
  have hD := hD0.self (sz := s.heap.size)
  generalize hAe : va_A [(h1, .inr (3, [.ref a0, .ref a1, .ref a2, .ref a3, .int sz])), (a0, .inl (cyI, 40, .inl so)), (a1, .inl (cyZ, 40, .inl fi)), (a2, .inl (cyI, 40, .inl el)), (a3, .inl (cyJ, 40, .inr (.inl ab)))] s.heap.size = A at hD ⊢
  have hA : ∀ q : Nat, s.heap.size ≤ q → A q := fun q h => by rw [← hAe]; exact Or.inr h
  have hS : va_S A s.heap s.heap [] := va_S.rf
  have hP : va_P (dC, dI) vwCl [(h1, .inr (3, [.ref a0, .ref a1, .ref a2, .ref a3, .int sz])), (a0, .inl (cyI, 40, .inl so)), (a1, .inl (cyZ, 40, .inl fi)), (a2, .inl (cyI, 40, .inl el)), (a3, .inl (cyJ, 40, .inr (.inl ab)))] s.heap := hP
  have hP0 : va_P (dC, dI) vwCl [] s.heap := fun k q h => by simp at h
  have hin_X1 : ∀ w ∈ wsX10, w ∈ wsX1_addArray := by decide +kernel
  have hf_9 := hts (.fieldLink RX1 9 "ConversionTables$TypeTable" "sorts" "[I") (by decide +kernel)
  have hf_22 := hts (.fieldLink RX1 22 "ConversionTables$TypeTable" "aboves" "[J") (by decide +kernel)
  have hf_19 := hts (.fieldLink RX1 19 "ConversionTables$TypeTable" "elements" "[I") (by decide +kernel)
  have K_32 : ∀ (k : Nat) (tt : Int32) (oo : Int32) (so2 : Nat → Int32) (fi2 : Nat → Int32) (el2 : Nat → Int32) (ab2 : Nat → Int64) (sz2 : Int32) (H : Heap) (locs : List Loc) (ls : Array Slot) (ht : vp_in tt 40) (he : vp_in (el2 tt.toNatClampNeg) 40) (hc : 23 ≤ oo.toInt ∧ oo.toInt ≤ 40 ∧ 40 < oo.toInt + k) (ho : ∀ x : Int32, vp_in x 40 → ¬ tt ≤ x → so2 x.toNatClampNeg = 3 → vp_in (el2 x.toNatClampNeg) 40), va_P (dC, dI) vwCl [(h1, .inr (3, [.ref a0, .ref a1, .ref a2, .ref a3, .int sz2])), (a0, .inl (cyI, 40, .inl so2)), (a1, .inl (cyZ, 40, .inl fi2)), (a2, .inl (cyI, 40, .inl el2)), (a3, .inl (cyJ, 40, .inr (.inl ab2)))] H → va_D A [(h1, .inr (3, [.ref a0, .ref a1, .ref a2, .ref a3, .int sz2])), (a0, .inl (cyI, 40, .inl so2)), (a1, .inl (cyZ, 40, .inl fi2)), (a2, .inl (cyI, 40, .inl el2)), (a3, .inl (cyJ, 40, .inr (.inl ab2)))] → va_S A s.heap H locs → lv_has ls 4 [(0, .ref h1), (2, .int tt), (3, .int oo)] → f_X1_addArray so fi el ab sz x1 = f_X1_addArray_32 k so fi el ab sz x1 tt oo so2 fi2 el2 ab2 sz2 → W p l e (headSpec wsX1_addArray ({ frames := 3, cells := 0, slots := 0, locals := 70 })).room s m ([.ref h1, .int x1] : List Value).toArray below meth c H locs 0 0 (MQ below (va_Qi (S := mb_T1) (fun r u => (r, u) = f_X1_addArray so fi el ab sz x1) (fun u t => mb_at dC dI cyI cyZ cyJ A [(h1, .inr (3, [.ref a0, .ref a1, .ref a2, .ref a3, .int u.2.2.2.2])), (a0, .inl (cyI, 40, .inl u.1)), (a1, .inl (cyZ, 40, .inl u.2.1)), (a2, .inl (cyI, 40, .inl u.2.2.1)), (a3, .inl (cyJ, 40, .inr (.inl u.2.2.2.1)))] t) A) ([.ref h1, .int x1] : List Value).toArray s 0 0 A) (F0 m 32 ls []) := by
    intro k
    induction k with
    | zero =>
      intro tt oo so2 fi2 el2 ab2 sz2 H locs ls ht he hc ho
      exact absurd hc (by omega)
    | succ k ih =>
      intro tt oo so2 fi2 el2 ab2 sz2 H locs ls ht he hc ho hP hD hS hl hz
      refine lv_iload_n hx hb dX1_addArray_32 rfl (lv_at hl 2 rfl) ?_
      refine lv_iload_n hx hb dX1_addArray_33 rfl (lv_at hl 1 rfl) ?_
      refine lv_icmp_ge (tgt := 59) hx hb dX1_addArray_34 (by decide) (fun c_1 => ?_) (fun c_1 => ?_)
      · refine lv_iload_n hx hb dX1_addArray_59 rfl (lv_at hl 1 rfl) ?_
        exact W.iret (v := tt) hx hb hr (fun t ht hW => ⟨⟨tt, (so2, fi2, el2, ab2, sz2), rfl, Eq.symm (hz.trans ((if_pos c_1).trans (rfl))), by rw [ht]; exact hP, va_K.moved hW.alike hK, hD⟩, hS.F ht⟩) hS.2.2 dX1_addArray_60
      · refine lv_aload_n hx hb dX1_addArray_37 rfl (lv_at hl 0 rfl) ?_
        refine va_get (D := (dC, dI)) (ci := 3) (v := .ref a0) (C := RX1) (T := TX1) (N := 5) hx hb hts hin_X1 hown hK hP 0 rfl rfl 0 (by decide) hf_9 (fun _ h9 => h9) rfl dX1_addArray_38 ?_
        refine lv_iload_n hx hb dX1_addArray_41 rfl (lv_at hl 2 rfl) ?_
        refine va_iald hx hb hK hP 1 0 rfl rfl (mb_ctr hc (mb_le40 ht) c_1) dX1_addArray_42 ?_
        refine lv_iconst (v := (3 : Int32)) hx hb dX1_addArray_43 (by decide) ?_
        refine lv_icmp_ne (tgt := 53) hx hb dX1_addArray_44 (by decide) (fun c_2 => ?_) (fun c_2 => ?_)
        · refine lv_iinc (v := (oo + (1 : Int32))) (lv' := [(3, .int (oo + (1 : Int32))), (0, .ref h1), (2, .int tt)]) hx hb dX1_addArray_53 hl (k := 2) rfl rfl (by decide) rfl (fun ls hl => ?_)
          refine lv_goto (tgt := 32) hx hb dX1_addArray_56 (by decide) ?_
          exact ih tt (oo + (1 : Int32)) so2 fi2 el2 ab2 sz2 _ _ ls (ht) (he) (mb_ctr_step hc (mb_le40 ht) c_1) (ho) hP hD hS (lv_sub hl [1, 2, 0] rfl) (hz.trans ((if_neg c_1).trans ((if_neg c_2).trans (rfl))))
        · refine lv_aload_n hx hb dX1_addArray_47 rfl (lv_at hl 0 rfl) ?_
          refine lv_iload_n hx hb dX1_addArray_48 rfl (lv_at hl 1 rfl) ?_
          refine lv_iload_n hx hb dX1_addArray_49 rfl (lv_at hl 2 rfl) ?_
          have hPc := hP.sub (ws' := [(h1, .inr (3, [.ref a0, .ref a1, .ref a2, .ref a3, .int sz2])), (a0, .inl (cyI, 40, .inl so2)), (a1, .inl (cyZ, 40, .inl fi2)), (a2, .inl (cyI, 40, .inl el2)), (a3, .inl (cyJ, 40, .inr (.inl ab2)))]) [0, 1, 2, 3, 4] rfl
          have hDc := hD.sub (ws' := [(h1, .inr (3, [.ref a0, .ref a1, .ref a2, .ref a3, .int sz2])), (a0, .inl (cyI, 40, .inl so2)), (a1, .inl (cyZ, 40, .inl fi2)), (a2, .inl (cyI, 40, .inl el2)), (a3, .inl (cyJ, 40, .inr (.inl ab2)))]) [0, 1, 2, 3, 4] (by decide) rfl
          have hFc := va_free (wc := [(h1, .inr (3, [.ref a0, .ref a1, .ref a2, .ref a3, .int sz2])), (a0, .inl (cyI, 40, .inl so2)), (a1, .inl (cyZ, 40, .inl fi2)), (a2, .inl (cyI, 40, .inl el2)), (a3, .inl (cyJ, 40, .inr (.inl ab2)))]) hD hS hA [0, 1, 2, 3, 4] rfl
          refine mb_callv (va_runV (As := [.int tt, .int oo]) (rest := []) ⟨hx, hb, hml, hown, hts⟩ (c_X1_placeArrays l dC dI cyI cyZ cyJ h1 a0 a1 a2 a3 so2 fi2 el2 ab2 sz2 H.size tt oo ht (mb_ctr hc (mb_le40 ht) c_1) he (ho oo (mb_ctr hc (mb_le40 ht) c_1) c_1 c_2)) (cwV 2 hts gX1_addArray_X1_placeArrays rfl rfl rfl (by decide +kernel) ⟨Nat.le_of_ble_eq_true rfl, Nat.le_of_ble_eq_true rfl⟩) (mb_preM hK hPc hDc (ci := 3) (q0 := 0) rfl rfl) rfl rfl hl.1 rfl (lv_room (Nat.le_of_ble_eq_true rfl)) dX1_addArray_50 ⟨Nat.zero_le _, Nat.zero_le _⟩) hS (fun q _ h => hFc q h) hFc (fun tq H locs htq hvmq hBq hk1 hS => ?_)
          obtain ⟨hP1, hK1, hD1⟩ := hBq
          rw [htq] at hP1
          obtain ⟨hP, hD⟩ := va_join (wr := []) (w1 := [(h1, .inr (3, [.ref a0, .ref a1, .ref a2, .ref a3, .int sz2])), (a0, .inl (cyI, 40, .inl so2)), (a1, .inl (cyZ, 40, .inl fi2)), (a2, .inl (cyI, 40, .inl el2)), (a3, .inl (cyJ, 40, .inr (.inl (f_X1_placeArrays so2 fi2 el2 ab2 sz2 tt oo))))]) hP hD [0, 1, 2, 3, 4] [] rfl rfl (by decide) (by decide) hk1 hFc hP1 hD1
          have hP : va_P (dC, dI) vwCl [(h1, .inr (3, [.ref a0, .ref a1, .ref a2, .ref a3, .int sz2])), (a0, .inl (cyI, 40, .inl so2)), (a1, .inl (cyZ, 40, .inl fi2)), (a2, .inl (cyI, 40, .inl el2)), (a3, .inl (cyJ, 40, .inr (.inl (f_X1_placeArrays so2 fi2 el2 ab2 sz2 tt oo))))] H := hP
          have hD : va_D A [(h1, .inr (3, [.ref a0, .ref a1, .ref a2, .ref a3, .int sz2])), (a0, .inl (cyI, 40, .inl so2)), (a1, .inl (cyZ, 40, .inl fi2)), (a2, .inl (cyI, 40, .inl el2)), (a3, .inl (cyJ, 40, .inr (.inl (f_X1_placeArrays so2 fi2 el2 ab2 sz2 tt oo))))] := hD
          refine lv_iinc (v := (oo + (1 : Int32))) (lv' := [(3, .int (oo + (1 : Int32))), (0, .ref h1), (2, .int tt)]) hx hb dX1_addArray_53 hl (k := 2) rfl rfl (by decide) rfl (fun ls hl => ?_)
          refine lv_goto (tgt := 32) hx hb dX1_addArray_56 (by decide) ?_
          exact ih tt (oo + (1 : Int32)) so2 fi2 el2 (f_X1_placeArrays so2 fi2 el2 ab2 sz2 tt oo) sz2 _ _ ls (ht) (he) (mb_ctr_step hc (mb_le40 ht) c_1) (ho) hP hD hS (lv_sub hl [1, 2, 0] rfl) (hz.trans ((if_neg c_1).trans ((if_pos c_2).trans (rfl))))
  have hl := lv_entry ([.ref h1, .int x1]) (n := 4) (Nat.le_of_ble_eq_true rfl)
  rw [lg_entry_eq]
  generalize (lg_sl ([.ref h1, .int x1]) ++ List.replicate (4 - (lg_sl ([.ref h1, .int x1])).length) Slot.unset).toArray = ls at hl ⊢
  have hl : lv_has ls 4 [(0, .ref h1), (1, .int x1)] := hl
  refine lv_aload_n hx hb dX1_addArray_0 rfl (lv_at hl 0 rfl) ?_
  refine lv_iconst (v := (3 : Int32)) hx hb dX1_addArray_1 (by decide) ?_
  refine lv_iconst (v := (0 : Int32)) hx hb dX1_addArray_2 (by decide) ?_
  refine lv_aload_n hx hb dX1_addArray_3 rfl (lv_at hl 0 rfl) ?_
  refine va_get (D := (dC, dI)) (ci := 3) (v := .ref a3) (C := RX1) (T := TX1) (N := 5) hx hb hts hin_X1 hown hK hP 0 rfl rfl 3 (by decide) hf_22 (fun _ h9 => h9) rfl dX1_addArray_4 ?_
  refine lv_bipush (v := (20 : Int32)) hx hb dX1_addArray_7 (by decide) ?_
  refine va_lald hx hb hK hP 4 2 rfl rfl mb_in20 dX1_addArray_9 ?_
  refine lv_aload_n hx hb dX1_addArray_10 rfl (lv_at hl 0 rfl) ?_
  refine va_get (D := (dC, dI)) (ci := 3) (v := .ref a3) (C := RX1) (T := TX1) (N := 5) hx hb hts hin_X1 hown hK hP 0 rfl rfl 3 (by decide) hf_22 (fun _ h9 => h9) rfl dX1_addArray_11 ?_
  refine lv_bipush (v := (19 : Int32)) hx hb dX1_addArray_14 (by decide) ?_
  refine va_lald hx hb hK hP 4 2 rfl rfl mb_in19 dX1_addArray_16 ?_
  refine lv_lor hx hb dX1_addArray_17 ?_
  have hPc := hP.sub (ws' := [(h1, .inr (3, [.ref a0, .ref a1, .ref a2, .ref a3, .int sz])), (a0, .inl (cyI, 40, .inl so)), (a1, .inl (cyZ, 40, .inl fi)), (a2, .inl (cyI, 40, .inl el)), (a3, .inl (cyJ, 40, .inr (.inl ab)))]) [0, 1, 2, 3, 4] rfl
  have hDc := hD.sub (ws' := [(h1, .inr (3, [.ref a0, .ref a1, .ref a2, .ref a3, .int sz])), (a0, .inl (cyI, 40, .inl so)), (a1, .inl (cyZ, 40, .inl fi)), (a2, .inl (cyI, 40, .inl el)), (a3, .inl (cyJ, 40, .inr (.inl ab)))]) [0, 1, 2, 3, 4] (by decide) rfl
  have hFc := va_free (wc := [(h1, .inr (3, [.ref a0, .ref a1, .ref a2, .ref a3, .int sz])), (a0, .inl (cyI, 40, .inl so)), (a1, .inl (cyZ, 40, .inl fi)), (a2, .inl (cyI, 40, .inl el)), (a3, .inl (cyJ, 40, .inr (.inl ab)))]) hD hS hA [0, 1, 2, 3, 4] rfl
  refine mb_calli (va_runV (As := [.int (3 : Int32), .int (0 : Int32), .long ((ab (20 : Int32).toNatClampNeg) ||| (ab (19 : Int32).toNatClampNeg))]) (rest := []) ⟨hx, hb, hml, hown, hts⟩ (c_X1_add l dC dI cyI cyZ cyJ h1 a0 a1 a2 a3 so fi el ab sz s.heap.size (3 : Int32) (0 : Int32) ((ab (20 : Int32).toNatClampNeg) ||| (ab (19 : Int32).toNatClampNeg)) g1) (cwV 3 hts gX1_addArray_X1_add rfl rfl rfl (by decide +kernel) ⟨Nat.le_of_ble_eq_true rfl, Nat.le_of_ble_eq_true rfl⟩) (mb_preM hK hPc hDc (ci := 3) (q0 := 0) rfl rfl) rfl rfl hl.1 rfl (lv_room (Nat.le_of_ble_eq_true rfl)) dX1_addArray_18 ⟨Nat.zero_le _, Nat.zero_le _⟩) hS (fun q _ h => hFc q h) hFc (fun tq H locs htq hvmq hBq hk1 hS => ?_)
  obtain ⟨hP1, hK1, hD1⟩ := hBq
  rw [htq] at hP1
  obtain ⟨hP, hD⟩ := va_join (wr := []) (w1 := [(h1, .inr (3, [.ref a0, .ref a1, .ref a2, .ref a3, .int ((f_X1_add so fi el ab sz (3 : Int32) (0 : Int32) ((ab (20 : Int32).toNatClampNeg) ||| (ab (19 : Int32).toNatClampNeg))).2.2.2.2.2)])), (a0, .inl (cyI, 40, .inl ((f_X1_add so fi el ab sz (3 : Int32) (0 : Int32) ((ab (20 : Int32).toNatClampNeg) ||| (ab (19 : Int32).toNatClampNeg))).2.1))), (a1, .inl (cyZ, 40, .inl ((f_X1_add so fi el ab sz (3 : Int32) (0 : Int32) ((ab (20 : Int32).toNatClampNeg) ||| (ab (19 : Int32).toNatClampNeg))).2.2.1))), (a2, .inl (cyI, 40, .inl ((f_X1_add so fi el ab sz (3 : Int32) (0 : Int32) ((ab (20 : Int32).toNatClampNeg) ||| (ab (19 : Int32).toNatClampNeg))).2.2.2.1))), (a3, .inl (cyJ, 40, .inr (.inl ((f_X1_add so fi el ab sz (3 : Int32) (0 : Int32) ((ab (20 : Int32).toNatClampNeg) ||| (ab (19 : Int32).toNatClampNeg))).2.2.2.2.1))))]) hP hD [0, 1, 2, 3, 4] [] rfl rfl (by decide) (by decide) hk1 hFc hP1 hD1
  have hP : va_P (dC, dI) vwCl [(h1, .inr (3, [.ref a0, .ref a1, .ref a2, .ref a3, .int ((f_X1_add so fi el ab sz (3 : Int32) (0 : Int32) ((ab (20 : Int32).toNatClampNeg) ||| (ab (19 : Int32).toNatClampNeg))).2.2.2.2.2)])), (a0, .inl (cyI, 40, .inl ((f_X1_add so fi el ab sz (3 : Int32) (0 : Int32) ((ab (20 : Int32).toNatClampNeg) ||| (ab (19 : Int32).toNatClampNeg))).2.1))), (a1, .inl (cyZ, 40, .inl ((f_X1_add so fi el ab sz (3 : Int32) (0 : Int32) ((ab (20 : Int32).toNatClampNeg) ||| (ab (19 : Int32).toNatClampNeg))).2.2.1))), (a2, .inl (cyI, 40, .inl ((f_X1_add so fi el ab sz (3 : Int32) (0 : Int32) ((ab (20 : Int32).toNatClampNeg) ||| (ab (19 : Int32).toNatClampNeg))).2.2.2.1))), (a3, .inl (cyJ, 40, .inr (.inl ((f_X1_add so fi el ab sz (3 : Int32) (0 : Int32) ((ab (20 : Int32).toNatClampNeg) ||| (ab (19 : Int32).toNatClampNeg))).2.2.2.2.1))))] H := hP
  have hD : va_D A [(h1, .inr (3, [.ref a0, .ref a1, .ref a2, .ref a3, .int ((f_X1_add so fi el ab sz (3 : Int32) (0 : Int32) ((ab (20 : Int32).toNatClampNeg) ||| (ab (19 : Int32).toNatClampNeg))).2.2.2.2.2)])), (a0, .inl (cyI, 40, .inl ((f_X1_add so fi el ab sz (3 : Int32) (0 : Int32) ((ab (20 : Int32).toNatClampNeg) ||| (ab (19 : Int32).toNatClampNeg))).2.1))), (a1, .inl (cyZ, 40, .inl ((f_X1_add so fi el ab sz (3 : Int32) (0 : Int32) ((ab (20 : Int32).toNatClampNeg) ||| (ab (19 : Int32).toNatClampNeg))).2.2.1))), (a2, .inl (cyI, 40, .inl ((f_X1_add so fi el ab sz (3 : Int32) (0 : Int32) ((ab (20 : Int32).toNatClampNeg) ||| (ab (19 : Int32).toNatClampNeg))).2.2.2.1))), (a3, .inl (cyJ, 40, .inr (.inl ((f_X1_add so fi el ab sz (3 : Int32) (0 : Int32) ((ab (20 : Int32).toNatClampNeg) ||| (ab (19 : Int32).toNatClampNeg))).2.2.2.2.1))))] := hD
  refine lv_istore_n (lv' := [(2, .int ((f_X1_add so fi el ab sz (3 : Int32) (0 : Int32) ((ab (20 : Int32).toNatClampNeg) ||| (ab (19 : Int32).toNatClampNeg))).1)), (0, .ref h1), (1, .int x1)]) hx hb dX1_addArray_21 rfl hl (by decide) rfl (fun ls hl => ?_)
  refine lv_aload_n hx hb dX1_addArray_22 rfl (lv_at hl 1 rfl) ?_
  refine va_get (D := (dC, dI)) (ci := 3) (v := .ref a2) (C := RX1) (T := TX1) (N := 5) hx hb hts hin_X1 hown hK hP 0 rfl rfl 2 (by decide) hf_19 (fun _ h9 => h9) rfl dX1_addArray_23 ?_
  refine lv_iload_n hx hb dX1_addArray_26 rfl (lv_at hl 0 rfl) ?_
  refine lv_iload_n hx hb dX1_addArray_27 rfl (lv_at hl 2 rfl) ?_
  refine va_iast hx hb hK hP hD hS 3 0 rfl rfl g1 dX1_addArray_28 (fun H locs hP hD hS => ?_)
  have hP : va_P (dC, dI) vwCl [(h1, .inr (3, [.ref a0, .ref a1, .ref a2, .ref a3, .int ((f_X1_add so fi el ab sz (3 : Int32) (0 : Int32) ((ab (20 : Int32).toNatClampNeg) ||| (ab (19 : Int32).toNatClampNeg))).2.2.2.2.2)])), (a0, .inl (cyI, 40, .inl ((f_X1_add so fi el ab sz (3 : Int32) (0 : Int32) ((ab (20 : Int32).toNatClampNeg) ||| (ab (19 : Int32).toNatClampNeg))).2.1))), (a1, .inl (cyZ, 40, .inl ((f_X1_add so fi el ab sz (3 : Int32) (0 : Int32) ((ab (20 : Int32).toNatClampNeg) ||| (ab (19 : Int32).toNatClampNeg))).2.2.1))), (a2, .inl (cyI, 40, .inl (upd ((f_X1_add so fi el ab sz (3 : Int32) (0 : Int32) ((ab (20 : Int32).toNatClampNeg) ||| (ab (19 : Int32).toNatClampNeg))).2.2.2.1) ((f_X1_add so fi el ab sz (3 : Int32) (0 : Int32) ((ab (20 : Int32).toNatClampNeg) ||| (ab (19 : Int32).toNatClampNeg))).1).toNatClampNeg x1))), (a3, .inl (cyJ, 40, .inr (.inl ((f_X1_add so fi el ab sz (3 : Int32) (0 : Int32) ((ab (20 : Int32).toNatClampNeg) ||| (ab (19 : Int32).toNatClampNeg))).2.2.2.2.1))))] H := hP
  have hD : va_D A [(h1, .inr (3, [.ref a0, .ref a1, .ref a2, .ref a3, .int ((f_X1_add so fi el ab sz (3 : Int32) (0 : Int32) ((ab (20 : Int32).toNatClampNeg) ||| (ab (19 : Int32).toNatClampNeg))).2.2.2.2.2)])), (a0, .inl (cyI, 40, .inl ((f_X1_add so fi el ab sz (3 : Int32) (0 : Int32) ((ab (20 : Int32).toNatClampNeg) ||| (ab (19 : Int32).toNatClampNeg))).2.1))), (a1, .inl (cyZ, 40, .inl ((f_X1_add so fi el ab sz (3 : Int32) (0 : Int32) ((ab (20 : Int32).toNatClampNeg) ||| (ab (19 : Int32).toNatClampNeg))).2.2.1))), (a2, .inl (cyI, 40, .inl (upd ((f_X1_add so fi el ab sz (3 : Int32) (0 : Int32) ((ab (20 : Int32).toNatClampNeg) ||| (ab (19 : Int32).toNatClampNeg))).2.2.2.1) ((f_X1_add so fi el ab sz (3 : Int32) (0 : Int32) ((ab (20 : Int32).toNatClampNeg) ||| (ab (19 : Int32).toNatClampNeg))).1).toNatClampNeg x1))), (a3, .inl (cyJ, 40, .inr (.inl ((f_X1_add so fi el ab sz (3 : Int32) (0 : Int32) ((ab (20 : Int32).toNatClampNeg) ||| (ab (19 : Int32).toNatClampNeg))).2.2.2.2.1))))] := hD
  refine lv_bipush (v := (23 : Int32)) hx hb dX1_addArray_29 (by decide) ?_
  refine lv_istore_n (lv' := [(3, .int (23 : Int32)), (2, .int ((f_X1_add so fi el ab sz (3 : Int32) (0 : Int32) ((ab (20 : Int32).toNatClampNeg) ||| (ab (19 : Int32).toNatClampNeg))).1)), (0, .ref h1), (1, .int x1)]) hx hb dX1_addArray_31 rfl hl (by decide) rfl (fun ls hl => ?_)
  exact K_32 18 ((f_X1_add so fi el ab sz (3 : Int32) (0 : Int32) ((ab (20 : Int32).toNatClampNeg) ||| (ab (19 : Int32).toNatClampNeg))).1) (23 : Int32) ((f_X1_add so fi el ab sz (3 : Int32) (0 : Int32) ((ab (20 : Int32).toNatClampNeg) ||| (ab (19 : Int32).toNatClampNeg))).2.1) ((f_X1_add so fi el ab sz (3 : Int32) (0 : Int32) ((ab (20 : Int32).toNatClampNeg) ||| (ab (19 : Int32).toNatClampNeg))).2.2.1) (upd ((f_X1_add so fi el ab sz (3 : Int32) (0 : Int32) ((ab (20 : Int32).toNatClampNeg) ||| (ab (19 : Int32).toNatClampNeg))).2.2.2.1) ((f_X1_add so fi el ab sz (3 : Int32) (0 : Int32) ((ab (20 : Int32).toNatClampNeg) ||| (ab (19 : Int32).toNatClampNeg))).1).toNatClampNeg x1) ((f_X1_add so fi el ab sz (3 : Int32) (0 : Int32) ((ab (20 : Int32).toNatClampNeg) ||| (ab (19 : Int32).toNatClampNeg))).2.2.2.2.1) ((f_X1_add so fi el ab sz (3 : Int32) (0 : Int32) ((ab (20 : Int32).toNatClampNeg) ||| (ab (19 : Int32).toNatClampNeg))).2.2.2.2.2) _ _ ls (g1) (mb_he g2) (by decide) (mb_addarr ge g1) hP hD hS (lv_sub hl [2, 1, 0] rfl) (rfl)

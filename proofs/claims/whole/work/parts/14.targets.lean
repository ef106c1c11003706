theorem mb_ctr0 {so fi el : Nat → Int32} {ab : Nat → Int64} {tt sz : Int32} {k : Nat} (hc : 0 ≤ tt.toInt ∧ tt.toInt ≤ 40 ∧ 40 < tt.toInt + k) (gz : sz.toInt ≤ 40) (h : ¬ f_X1_size so fi el ab sz ≤ tt) : vp_in tt 40 := by
  unfold f_X1_size at h
  rw [vp_in_iff]
  rw [Int32.le_iff_toInt_le] at h
  omega
theorem mb_ctr0_step {so fi el : Nat → Int32} {ab : Nat → Int64} {tt sz : Int32} {k : Nat} (hc : 0 ≤ tt.toInt ∧ tt.toInt ≤ 40 ∧ 40 < tt.toInt + (k + 1 : Nat)) (gz : sz.toInt ≤ 40) (h : ¬ f_X1_size so fi el ab sz ≤ tt) : 0 ≤ (tt + 1).toInt ∧ (tt + 1).toInt ≤ 40 ∧ 40 < (tt + 1).toInt + k := by
  unfold f_X1_size at h
  rw [Int32.le_iff_toInt_le] at h
  rw [mb_inc (by omega) (by omega)]
  omega
def f_X2_targets_25 : Nat → (Nat → Int32) → (Nat → Int32) → (Nat → Int32) → (Nat → Int64) → Int32 → (Nat → Int32) → (Nat → Int64) → Int32 → Int32 → Int32 → Int32 → Int32 → Int32
  | 0, _, _, _, _, _, _, _, _, _, _, _, _ => 0
  | k + 1, so, fi, el, ab, sz, ot, ob, oc, x1, x2, nn, tt => if (f_X1_size so fi el ab sz) ≤ tt then nn
  else if (f_X2_allowedKind so fi el ab sz ot ob oc x1 tt x2) = 0 then f_X2_targets_25 k so fi el ab sz ot ob oc x1 x2 nn (tt + (1 : Int32))
  else f_X2_targets_25 k so fi el ab sz ot ob oc x1 x2 (nn + (1 : Int32)) (tt + (1 : Int32))
def f_X2_targets (so : Nat → Int32) (fi : Nat → Int32) (el : Nat → Int32) (ab : Nat → Int64) (sz : Int32) (ot : Nat → Int32) (ob : Nat → Int64) (oc : Int32) (x1 : Int32) (x2 : Int32) : Int32 := if (f_X1_has so fi el ab sz x1) = 0 then (-1 : Int32)
  else if (f_X2_isContext x2) = 0 then (-1 : Int32)
  else f_X2_targets_25 41 so fi el ab sz ot ob oc x1 x2 (0 : Int32) (0 : Int32)
set_option maxHeartbeats 4000000 in
set_option maxRecDepth 100000 in
theorem c_X2_targets (l : Launch) (dC : Nat → ClassId) (dI : Nat → Nat → Nat) (cyI cyZ cyJ : ClassId) (tK tL tG : Nat) (ad : Nat → Nat) (h2 h1 a0 a1 a2 a3 b0 b1 : Nat) (so : Nat → Int32) (fi : Nat → Int32) (el : Nat → Int32) (ab : Nat → Int64) (sz : Int32) (ot : Nat → Int32) (ob : Nat → Int64) (oc : Int32) (x1 : Int32) (x2 : Int32) (gz : sz.toInt ≤ 40) (ge : mb_EL so el) : Met l yX2_targets wsX2_targets ({ frames := 6, cells := 0, slots := 0, locals := 137 }) (va_Pc [.ref h2, .int x1, .int x2] (mb_RG tK tL tG ad (dC, dI) (mb_tys cyI cyZ cyJ) [(h2, .inr (4, [.ref h1, .ref b0, .ref b1, .int oc])), (h1, .inr (3, [.ref a0, .ref a1, .ref a2, .ref a3, .int sz])), (a0, .inl (cyI, 40, .inl so)), (a1, .inl (cyZ, 40, .inl fi)), (a2, .inl (cyI, 40, .inl el)), (a3, .inl (cyJ, 40, .inr (.inl ab))), (b0, .inl (cyI, 60, .inl ot)), (b1, .inl (cyJ, 60, .inr (.inl ob)))])) (vp_Si (fun r => r = f_X2_targets so fi el ab sz ot ob oc x1 x2)) 0 0 (fun _ => False) := by
  refine Met.ofW (cc := cX2_targets) (maxL := 5) (ret := (some .int)) (by decide) rfl ?_
  intro p e s m args below meth c s₁ B hml hv
  obtain ⟨rfl, hG, hP, hK⟩ := hv
  have hx := B.exec
  have hb := B.bytes
  have hr := B.returns
  have hts := atoms_spec (ws := wsX2_targets) B.pre
  have hown : s.vm.findClass RX2 = some m.cls := findClass_of_methodNamed B.named
  have hlocks := B.notSynchronized
  have hP : va_P (dC, dI) vwCl [(h2, .inr (4, [.ref h1, .ref b0, .ref b1, .int oc])), (h1, .inr (3, [.ref a0, .ref a1, .ref a2, .ref a3, .int sz])), (a0, .inl (cyI, 40, .inl so)), (a1, .inl (cyZ, 40, .inl fi)), (a2, .inl (cyI, 40, .inl el)), (a3, .inl (cyJ, 40, .inr (.inl ab))), (b0, .inl (cyI, 60, .inl ot)), (b1, .inl (cyJ, 60, .inr (.inl ob)))] s.heap := hP
  have hP0 : va_P (dC, dI) vwCl [] s.heap := fun k q h => by simp at h
  have hin_X2 : ∀ w ∈ wsX20, w ∈ wsX2_targets := by decide +kernel
  have hf_12 := hts (.fieldLink RX2 12 "ConversionTables" "types" "LConversionTables$TypeTable;") (by decide +kernel)
  have K_25 : ∀ (k : Nat) (nn : Int32) (tt : Int32) (ls : Array Slot) (g1 : vp_in x1 40) (g3 : vp_in x2 6) (hc : 0 ≤ tt.toInt ∧ tt.toInt ≤ 40 ∧ 40 < tt.toInt + k), lv_has ls 5 [(0, .ref h2), (1, .int x1), (2, .int x2), (3, .int nn), (4, .int tt)] → f_X2_targets so fi el ab sz ot ob oc x1 x2 = f_X2_targets_25 k so fi el ab sz ot ob oc x1 x2 nn tt → W p l e (headSpec wsX2_targets ({ frames := 6, cells := 0, slots := 0, locals := 137 })).room s m ([.ref h2, .int x1, .int x2] : List Value).toArray below meth c s.heap [] 0 0 (MQ below (vp_Si (fun r => r = f_X2_targets so fi el ab sz ot ob oc x1 x2)) ([.ref h2, .int x1, .int x2] : List Value).toArray s 0 0 (fun _ => False)) (F0 m 25 ls []) := by
    intro k
    induction k with
    | zero =>
      intro nn tt ls g1 g3 hc
      exact absurd hc (by omega)
    | succ k ih =>
      intro nn tt ls g1 g3 hc hl hz
      refine lv_iload hx hb dX2_targets_25 (lv_at hl 4 rfl) ?_
      refine lv_aload_n hx hb dX2_targets_27 rfl (lv_at hl 0 rfl) ?_
      refine va_get (D := (dC, dI)) (ci := 4) (v := .ref h1) (C := RX2) (T := TX2) (N := 4) hx hb hts hin_X2 hown hK hP 0 rfl rfl 0 (by decide) hf_12 (fun _ h9 => h9) rfl dX2_targets_28 ?_
      refine mb_callSi (W.runV (As := []) (rest := [.int tt]) ⟨hx, hb, hml, hown, hts⟩ (c_X1_size l dC dI cyI cyZ cyJ h1 a0 a1 a2 a3 so fi el ab sz) (cwV 0 hts gX2_targets_X1_size rfl rfl rfl (by decide +kernel) ⟨Nat.le_of_ble_eq_true rfl, Nat.le_of_ble_eq_true rfl⟩) (mb_preV hK (hP.sub [1, 2, 3, 4, 5] rfl) (ci := 3) (q0 := 0) rfl rfl) rfl rfl hl.1 rfl (lv_room (Nat.le_of_ble_eq_true rfl)) dX2_targets_31 ⟨Nat.zero_le _, Nat.zero_le _⟩) ?_
      refine lv_icmp_ge (tgt := 57) hx hb dX2_targets_34 (by decide) (fun c_1 => ?_) (fun c_1 => ?_)
      · refine lv_iload_n hx hb dX2_targets_57 rfl (lv_at hl 3 rfl) ?_
        exact W.iret (v := nn) hx hb hr (fun t ht hW => ⟨nn, rfl, Eq.symm (hz.trans ((if_pos c_1).trans (rfl))), ht⟩) (fun q h => by cases h) dX2_targets_58
      · refine lv_aload_n hx hb dX2_targets_37 rfl (lv_at hl 0 rfl) ?_
        refine lv_iload_n hx hb dX2_targets_38 rfl (lv_at hl 1 rfl) ?_
        refine lv_iload hx hb dX2_targets_39 (lv_at hl 4 rfl) ?_
        refine lv_iload_n hx hb dX2_targets_41 rfl (lv_at hl 2 rfl) ?_
        refine mb_callSi (W.runV (As := [.int x1, .int tt, .int x2]) (rest := []) ⟨hx, hb, hml, hown, hts⟩ (c_X2_allowedKind l dC dI cyI cyZ cyJ tK tL tG ad h2 h1 a0 a1 a2 a3 b0 b1 so fi el ab sz ot ob oc x1 tt x2 g1 (mb_ctr0 hc gz c_1) g3 ge) (cwV 3 hts gX2_targets_X2_allowedKind rfl rfl rfl (by decide +kernel) ⟨Nat.le_of_ble_eq_true rfl, Nat.le_of_ble_eq_true rfl⟩) (mb_preGV hG hK hP (ci := 4) (q0 := 0) rfl rfl) rfl rfl hl.1 rfl (lv_room (Nat.le_of_ble_eq_true rfl)) dX2_targets_42 ⟨Nat.zero_le _, Nat.zero_le _⟩) ?_
        refine lv_if_eq (tgt := 51) hx hb dX2_targets_45 (by decide) (fun c_2 => ?_) (fun c_2 => ?_)
        · refine lv_iinc (v := (tt + (1 : Int32))) (lv' := [(4, .int (tt + (1 : Int32))), (0, .ref h2), (1, .int x1), (2, .int x2), (3, .int nn)]) hx hb dX2_targets_51 hl (k := 4) rfl rfl (by decide) rfl (fun ls hl => ?_)
          refine lv_goto (tgt := 25) hx hb dX2_targets_54 (by decide) ?_
          exact ih nn (tt + (1 : Int32)) ls (g1) (g3) (mb_ctr0_step hc gz c_1) (lv_sub hl [1, 2, 3, 4, 0] rfl) (hz.trans ((if_neg c_1).trans ((if_pos c_2).trans (rfl))))
        · refine lv_iinc (v := (nn + (1 : Int32))) (lv' := [(3, .int (nn + (1 : Int32))), (0, .ref h2), (1, .int x1), (2, .int x2), (4, .int tt)]) hx hb dX2_targets_48 hl (k := 3) rfl rfl (by decide) rfl (fun ls hl => ?_)
          refine lv_iinc (v := (tt + (1 : Int32))) (lv' := [(4, .int (tt + (1 : Int32))), (3, .int (nn + (1 : Int32))), (0, .ref h2), (1, .int x1), (2, .int x2)]) hx hb dX2_targets_51 hl (k := 4) rfl rfl (by decide) rfl (fun ls hl => ?_)
          refine lv_goto (tgt := 25) hx hb dX2_targets_54 (by decide) ?_
          exact ih (nn + (1 : Int32)) (tt + (1 : Int32)) ls (g1) (g3) (mb_ctr0_step hc gz c_1) (lv_sub hl [2, 3, 4, 1, 0] rfl) (hz.trans ((if_neg c_1).trans ((if_neg c_2).trans (rfl))))
  have hl := lv_entry ([.ref h2, .int x1, .int x2]) (n := 5) (Nat.le_of_ble_eq_true rfl)
  rw [lg_entry_eq]
  generalize (lg_sl ([.ref h2, .int x1, .int x2]) ++ List.replicate (5 - (lg_sl ([.ref h2, .int x1, .int x2])).length) Slot.unset).toArray = ls at hl ⊢
  have hl : lv_has ls 5 [(0, .ref h2), (1, .int x1), (2, .int x2)] := hl
  refine lv_aload_n hx hb dX2_targets_0 rfl (lv_at hl 0 rfl) ?_
  refine va_get (D := (dC, dI)) (ci := 4) (v := .ref h1) (C := RX2) (T := TX2) (N := 4) hx hb hts hin_X2 hown hK hP 0 rfl rfl 0 (by decide) hf_12 (fun _ h9 => h9) rfl dX2_targets_1 ?_
  refine lv_iload_n hx hb dX2_targets_4 rfl (lv_at hl 1 rfl) ?_
  refine mb_callSi (W.runV (As := [.int x1]) (rest := []) ⟨hx, hb, hml, hown, hts⟩ (c_X1_has l dC dI cyI cyZ cyJ h1 a0 a1 a2 a3 so fi el ab sz x1) (cwV 1 hts gX2_targets_X1_has rfl rfl rfl (by decide +kernel) ⟨Nat.le_of_ble_eq_true rfl, Nat.le_of_ble_eq_true rfl⟩) (mb_preV hK (hP.sub [1, 2, 3, 4, 5] rfl) (ci := 3) (q0 := 0) rfl rfl) rfl rfl hl.1 rfl (lv_room (Nat.le_of_ble_eq_true rfl)) dX2_targets_5 ⟨Nat.zero_le _, Nat.zero_le _⟩) ?_
  refine lv_if_eq (tgt := 18) hx hb dX2_targets_8 (by decide) (fun c_3 => ?_) (fun c_3 => ?_)
  · refine lv_iconst (v := (-1 : Int32)) hx hb dX2_targets_18 (by decide) ?_
    exact W.iret (v := (-1 : Int32)) hx hb hr (fun t ht hW => ⟨(-1 : Int32), rfl, Eq.symm ((if_pos c_3).trans (rfl)), ht⟩) (fun q h => by cases h) dX2_targets_19
  · refine lv_iload_n hx hb dX2_targets_11 rfl (lv_at hl 2 rfl) ?_
    refine mb_callSi (W.runS (As := [.int x2]) (rest := []) ⟨hx, hb, hml, hown, hts⟩ (c_X2_isContext l x2) (va_cwS 1 hts gX2_targets_X2_isContext rfl rfl rfl (by decide +kernel) ⟨Nat.le_of_ble_eq_true rfl, Nat.le_of_ble_eq_true rfl⟩) mb_preT rfl rfl hl.1 rfl (lv_room (Nat.le_of_ble_eq_true rfl)) dX2_targets_12 ⟨Nat.zero_le _, Nat.zero_le _⟩) ?_
    refine lv_if_ne (tgt := 20) hx hb dX2_targets_15 (by decide) (fun c_4 => ?_) (fun c_4 => ?_)
    · refine lv_iconst (v := (0 : Int32)) hx hb dX2_targets_20 (by decide) ?_
      refine lv_istore_n (lv' := [(3, .int (0 : Int32)), (0, .ref h2), (1, .int x1), (2, .int x2)]) hx hb dX2_targets_21 rfl hl (by decide) rfl (fun ls hl => ?_)
      refine lv_iconst (v := (0 : Int32)) hx hb dX2_targets_22 (by decide) ?_
      refine lv_istore (lv' := [(4, .int (0 : Int32)), (3, .int (0 : Int32)), (0, .ref h2), (1, .int x1), (2, .int x2)]) hx hb dX2_targets_23 hl (by decide) rfl (fun ls hl => ?_)
      exact K_25 41 (0 : Int32) (0 : Int32) ls (mb_has gz c_3) (mb_ctx c_4) (by decide) (lv_sub hl [2, 3, 4, 1, 0] rfl) ((if_neg c_3).trans ((if_neg c_4).trans (rfl)))
    · refine lv_iconst (v := (-1 : Int32)) hx hb dX2_targets_18 (by decide) ?_
      exact W.iret (v := (-1 : Int32)) hx hb hr (fun t ht hW => ⟨(-1 : Int32), rfl, Eq.symm ((if_neg c_3).trans ((if_pos c_4).trans (rfl))), ht⟩) (fun q h => by cases h) dX2_targets_19

def f_X3_leads_11 (so : Nat → Int32) (fi : Nat → Int32) (el : Nat → Int32) (av : Nat → Int32) (un : Nat → Int32) (ty : Int32) (kp : Nat → Int32) (bt : Nat → Int64) (oc : Int32) (x1 : Int32) (x2 : Int32) (x3 : Int32) (pr : Int32) : Int32 := if x1 = (1 : Int32) then (if x2 = x3 then (1 : Int32)
    else (0 : Int32))
  else if x1 = (2 : Int32) then (f_X3_isWider x2 x3)
  else if x1 = (3 : Int32) then (if (f_X3_isNumber x2) = 0 then (0 : Int32)
    else if (f_X3_isNumber x3) = 0 then (0 : Int32)
    else if x2 = x3 then (0 : Int32)
    else if (f_X3_isWider x2 x3) = 0 then (if x2 = (2 : Int32) then (if x3 = (1 : Int32) then (0 : Int32)
        else (1 : Int32))
      else (1 : Int32))
    else (0 : Int32))
  else if x1 = (4 : Int32) then (if x2 = (2 : Int32) then (if x3 = (1 : Int32) then (1 : Int32)
      else (0 : Int32))
    else (0 : Int32))
  else if x1 = (5 : Int32) then (if pr = 0 then (0 : Int32)
    else if x3 = (x2 + (8 : Int32)) then (1 : Int32)
    else (0 : Int32))
  else if x1 = (6 : Int32) then (if pr = 0 then (0 : Int32)
    else if (f_X3_isUp so fi el av un ty kp bt oc (x2 + (8 : Int32)) x3) = 0 then (0 : Int32)
    else (1 : Int32))
  else if x1 = (7 : Int32) then (if (f_X3_isBox x2) = 0 then (0 : Int32)
    else if x3 = (x2 - (8 : Int32)) then (1 : Int32)
    else (0 : Int32))
  else if x1 = (8 : Int32) then (if (f_X3_isBox x2) = 0 then (0 : Int32)
    else if (f_X3_isWider (x2 - (8 : Int32)) x3) = 0 then (0 : Int32)
    else (1 : Int32))
  else if x1 = (9 : Int32) then (f_X3_isUp so fi el av un ty kp bt oc x2 x3)
  else if x1 = (10 : Int32) then (f_X3_isDown so fi el av un ty kp bt oc x2 x3)
  else if x1 = (11 : Int32) then (if (8 : Int32) ≤ x3 then (0 : Int32)
    else if (f_X3_isDown so fi el av un ty kp bt oc x2 (x3 + (8 : Int32))) = 0 then (0 : Int32)
    else (1 : Int32))
  else if x3 = (21 : Int32) then (1 : Int32)
  else (0 : Int32)
theorem nb_X3_leads_11 (so : Nat → Int32) (fi : Nat → Int32) (el : Nat → Int32) (av : Nat → Int32) (un : Nat → Int32) (ty : Int32) (kp : Nat → Int32) (bt : Nat → Int64) (oc : Int32) (x1 : Int32) (x2 : Int32) (x3 : Int32) (pr : Int32): mb_B (f_X3_leads_11 so fi el av un ty kp bt oc x1 x2 x3 pr) := by
  unfold f_X3_leads_11
  exact mb_B_ite (mb_B_ite (rfl) (rfl)) (mb_B_ite ((nb_X3_isWider x2 x3)) (mb_B_ite (mb_B_ite (rfl) (mb_B_ite (rfl) (mb_B_ite (rfl) (mb_B_ite (mb_B_ite (mb_B_ite (rfl) (rfl)) (rfl)) (rfl))))) (mb_B_ite (mb_B_ite (mb_B_ite (rfl) (rfl)) (rfl)) (mb_B_ite (mb_B_ite (rfl) (mb_B_ite (rfl) (rfl))) (mb_B_ite (mb_B_ite (rfl) (mb_B_ite (rfl) (rfl))) (mb_B_ite (mb_B_ite (rfl) (mb_B_ite (rfl) (rfl))) (mb_B_ite (mb_B_ite (rfl) (mb_B_ite (rfl) (rfl))) (mb_B_ite ((nb_X3_isUp so fi el av un ty kp bt oc x2 x3)) (mb_B_ite ((nb_X3_isDown so fi el av un ty kp bt oc x2 x3)) (mb_B_ite (mb_B_ite (rfl) (mb_B_ite (rfl) (rfl))) (mb_B_ite (rfl) (rfl))))))))))))
def f_X3_leads (so : Nat → Int32) (fi : Nat → Int32) (el : Nat → Int32) (av : Nat → Int32) (un : Nat → Int32) (ty : Int32) (kp : Nat → Int32) (bt : Nat → Int64) (oc : Int32) (x1 : Int32) (x2 : Int32) (x3 : Int32) : Int32 := if (8 : Int32) ≤ x2 then f_X3_leads_11 so fi el av un ty kp bt oc x1 x2 x3 (0 : Int32)
  else f_X3_leads_11 so fi el av un ty kp bt oc x1 x2 x3 (1 : Int32)
theorem nb_X3_leads (so : Nat → Int32) (fi : Nat → Int32) (el : Nat → Int32) (av : Nat → Int32) (un : Nat → Int32) (ty : Int32) (kp : Nat → Int32) (bt : Nat → Int64) (oc : Int32) (x1 : Int32) (x2 : Int32) (x3 : Int32) : mb_B (f_X3_leads so fi el av un ty kp bt oc x1 x2 x3) := by
  unfold f_X3_leads
  exact mb_B_ite ((nb_X3_leads_11 so fi el av un ty kp bt oc x1 x2 x3 (0 : Int32))) ((nb_X3_leads_11 so fi el av un ty kp bt oc x1 x2 x3 (1 : Int32)))
set_option maxHeartbeats 4000000 in
set_option maxRecDepth 100000 in
theorem c_X3_leads (l : Launch) (dC : Nat → ClassId) (dI : Nat → Nat → Nat) (cyI cyZ cyJ : ClassId) (h3 e0 e1 e2 e3 e4 e5 e6 : Nat) (so : Nat → Int32) (fi : Nat → Int32) (el : Nat → Int32) (av : Nat → Int32) (un : Nat → Int32) (ty : Int32) (kp : Nat → Int32) (bt : Nat → Int64) (oc : Int32) (th : Int32) (x1 : Int32) (x2 : Int32) (x3 : Int32) (g2 : vp_in x2 40) (g3 : vp_in x3 40) (ge : mb_EL so el) : Met l yX3_leads wsX3_leads ({ frames := 3, cells := 0, slots := 0, locals := 67 }) (va_Pc [.ref h3, .int x1, .int x2, .int x3] (mb_R (dC, dI) (mb_tys cyI cyZ cyJ) [(h3, .inr (5, [.int th, .int ty, .ref e0, .ref e1, .ref e2, .ref e3, .ref e4, .int oc, .ref e5, .ref e6])), (e0, .inl (cyI, 40, .inl so)), (e1, .inl (cyZ, 40, .inl fi)), (e2, .inl (cyI, 40, .inl el)), (e3, .inl (cyI, 120, .inl av)), (e4, .inl (cyZ, 1600, .inl un)), (e5, .inl (cyI, 60, .inl kp)), (e6, .inl (cyJ, 60, .inr (.inl bt)))])) (vp_Si (fun r => r = f_X3_leads so fi el av un ty kp bt oc x1 x2 x3)) 0 0 (fun _ => False) := by
  refine Met.ofW (cc := cX3_leads) (maxL := 5) (ret := (some .boolean)) (by decide) rfl ?_
  intro p e s m args below meth c s₁ B hml hv
  obtain ⟨rfl, hP, hK⟩ := hv
  have hx := B.exec
  have hb := B.bytes
  have hr := B.returns
  have hts := atoms_spec (ws := wsX3_leads) B.pre
  have hown : s.vm.findClass RX3 = some m.cls := findClass_of_methodNamed B.named
  have hlocks := B.notSynchronized
  have hP : va_P (dC, dI) vwCl [(h3, .inr (5, [.int th, .int ty, .ref e0, .ref e1, .ref e2, .ref e3, .ref e4, .int oc, .ref e5, .ref e6])), (e0, .inl (cyI, 40, .inl so)), (e1, .inl (cyZ, 40, .inl fi)), (e2, .inl (cyI, 40, .inl el)), (e3, .inl (cyI, 120, .inl av)), (e4, .inl (cyZ, 1600, .inl un)), (e5, .inl (cyI, 60, .inl kp)), (e6, .inl (cyJ, 60, .inr (.inl bt)))] s.heap := hP
  have hP0 : va_P (dC, dI) vwCl [] s.heap := fun k q h => by simp at h
  have K_11 : ∀ (pr : Int32) (ls : Array Slot) (hp : pr = 0 ∨ ¬ (8 : Int32) ≤ x2), lv_has ls 5 [(0, .ref h3), (1, .int x1), (2, .int x2), (3, .int x3)] → f_X3_leads so fi el av un ty kp bt oc x1 x2 x3 = f_X3_leads_11 so fi el av un ty kp bt oc x1 x2 x3 pr → W p l e (headSpec wsX3_leads ({ frames := 3, cells := 0, slots := 0, locals := 67 })).room s m ([.ref h3, .int x1, .int x2, .int x3] : List Value).toArray below meth c s.heap [] 0 0 (MQ below (vp_Si (fun r => r = f_X3_leads so fi el av un ty kp bt oc x1 x2 x3)) ([.ref h3, .int x1, .int x2, .int x3] : List Value).toArray s 0 0 (fun _ => False)) (F0 m 11 ls [.int pr]) := by
    intro pr ls hp hl hz
    refine lv_istore (lv' := [(4, .int pr), (0, .ref h3), (1, .int x1), (2, .int x2), (3, .int x3)]) hx hb dX3_leads_11 hl (by decide) rfl (fun ls hl => ?_)
    refine lv_iload_n hx hb dX3_leads_13 rfl (lv_at hl 2 rfl) ?_
    by_cases c_1 : x1 = (1 : Int32)
    · refine lv_tableIn (tgt := 72) hx hb dX3_leads_14 (by rw [c_1]; decide) (by rw [c_1]; decide) (off := 58) (by rw [c_1]; decide) (by decide) ?_
      refine lv_iload_n hx hb dX3_leads_72 rfl (lv_at hl 3 rfl) ?_
      refine lv_iload_n hx hb dX3_leads_73 rfl (lv_at hl 4 rfl) ?_
      refine lv_icmp_ne (tgt := 81) hx hb dX3_leads_74 (by decide) (fun c_2 => ?_) (fun c_2 => ?_)
      · refine lv_iconst (v := (0 : Int32)) hx hb dX3_leads_81 (by decide) ?_
        exact W.zret (v := (0 : Int32)) hx hb hr rfl (fun t ht hW => ⟨(0 : Int32), rfl, Eq.symm (hz.trans ((if_pos c_1).trans ((if_neg c_2).trans (rfl)))), ht⟩) (fun q h => by cases h) dX3_leads_82
      · refine lv_iconst (v := (1 : Int32)) hx hb dX3_leads_77 (by decide) ?_
        refine lv_goto (tgt := 82) hx hb dX3_leads_78 (by decide) ?_
        exact W.zret (v := (1 : Int32)) hx hb hr rfl (fun t ht hW => ⟨(1 : Int32), rfl, Eq.symm (hz.trans ((if_pos c_1).trans ((if_pos c_2).trans (rfl)))), ht⟩) (fun q h => by cases h) dX3_leads_82
    · by_cases c_3 : x1 = (2 : Int32)
      · refine lv_tableIn (tgt := 83) hx hb dX3_leads_14 (by rw [c_3]; decide) (by rw [c_3]; decide) (off := 69) (by rw [c_3]; decide) (by decide) ?_
        refine lv_iload_n hx hb dX3_leads_83 rfl (lv_at hl 3 rfl) ?_
        refine lv_iload_n hx hb dX3_leads_84 rfl (lv_at hl 4 rfl) ?_
        refine mb_callSi (W.runS (As := [.int x2, .int x3]) (rest := []) ⟨hx, hb, hml, hown, hts⟩ (c_X3_isWider l x2 x3) (va_cwS 2 hts gX3_leads_X3_isWider rfl rfl rfl (by decide +kernel) ⟨Nat.le_of_ble_eq_true rfl, Nat.le_of_ble_eq_true rfl⟩) mb_preT rfl rfl hl.1 rfl (lv_room (Nat.le_of_ble_eq_true rfl)) dX3_leads_85 ⟨Nat.zero_le _, Nat.zero_le _⟩) ?_
        exact W.zret (v := (f_X3_isWider x2 x3)) hx hb hr (nb_X3_isWider x2 x3) (fun t ht hW => ⟨(f_X3_isWider x2 x3), rfl, Eq.symm (hz.trans ((if_neg c_1).trans ((if_pos c_3).trans (rfl)))), ht⟩) (fun q h => by cases h) dX3_leads_88
      · by_cases c_4 : x1 = (3 : Int32)
        · refine lv_tableIn (tgt := 89) hx hb dX3_leads_14 (by rw [c_4]; decide) (by rw [c_4]; decide) (off := 75) (by rw [c_4]; decide) (by decide) ?_
          refine lv_iload_n hx hb dX3_leads_89 rfl (lv_at hl 3 rfl) ?_
          refine mb_callSi (W.runS (As := [.int x2]) (rest := []) ⟨hx, hb, hml, hown, hts⟩ (c_X3_isNumber l x2) (va_cwS 1 hts gX3_leads_X3_isNumber rfl rfl rfl (by decide +kernel) ⟨Nat.le_of_ble_eq_true rfl, Nat.le_of_ble_eq_true rfl⟩) mb_preT rfl rfl hl.1 rfl (lv_room (Nat.le_of_ble_eq_true rfl)) dX3_leads_90 ⟨Nat.zero_le _, Nat.zero_le _⟩) ?_
          refine lv_if_eq (tgt := 130) hx hb dX3_leads_93 (by decide) (fun c_5 => ?_) (fun c_5 => ?_)
          · refine lv_iconst (v := (0 : Int32)) hx hb dX3_leads_130 (by decide) ?_
            exact W.zret (v := (0 : Int32)) hx hb hr rfl (fun t ht hW => ⟨(0 : Int32), rfl, Eq.symm (hz.trans ((if_neg c_1).trans ((if_neg c_3).trans ((if_pos c_4).trans ((if_pos c_5).trans (rfl)))))), ht⟩) (fun q h => by cases h) dX3_leads_131
          · refine lv_iload_n hx hb dX3_leads_96 rfl (lv_at hl 4 rfl) ?_
            refine mb_callSi (W.runS (As := [.int x3]) (rest := []) ⟨hx, hb, hml, hown, hts⟩ (c_X3_isNumber l x3) (va_cwS 1 hts gX3_leads_X3_isNumber rfl rfl rfl (by decide +kernel) ⟨Nat.le_of_ble_eq_true rfl, Nat.le_of_ble_eq_true rfl⟩) mb_preT rfl rfl hl.1 rfl (lv_room (Nat.le_of_ble_eq_true rfl)) dX3_leads_97 ⟨Nat.zero_le _, Nat.zero_le _⟩) ?_
            refine lv_if_eq (tgt := 130) hx hb dX3_leads_100 (by decide) (fun c_6 => ?_) (fun c_6 => ?_)
            · refine lv_iconst (v := (0 : Int32)) hx hb dX3_leads_130 (by decide) ?_
              exact W.zret (v := (0 : Int32)) hx hb hr rfl (fun t ht hW => ⟨(0 : Int32), rfl, Eq.symm (hz.trans ((if_neg c_1).trans ((if_neg c_3).trans ((if_pos c_4).trans ((if_neg c_5).trans ((if_pos c_6).trans (rfl))))))), ht⟩) (fun q h => by cases h) dX3_leads_131
            · refine lv_iload_n hx hb dX3_leads_103 rfl (lv_at hl 3 rfl) ?_
              refine lv_iload_n hx hb dX3_leads_104 rfl (lv_at hl 4 rfl) ?_
              refine lv_icmp_eq (tgt := 130) hx hb dX3_leads_105 (by decide) (fun c_7 => ?_) (fun c_7 => ?_)
              · refine lv_iconst (v := (0 : Int32)) hx hb dX3_leads_130 (by decide) ?_
                exact W.zret (v := (0 : Int32)) hx hb hr rfl (fun t ht hW => ⟨(0 : Int32), rfl, Eq.symm (hz.trans ((if_neg c_1).trans ((if_neg c_3).trans ((if_pos c_4).trans ((if_neg c_5).trans ((if_neg c_6).trans ((if_pos c_7).trans (rfl)))))))), ht⟩) (fun q h => by cases h) dX3_leads_131
              · refine lv_iload_n hx hb dX3_leads_108 rfl (lv_at hl 3 rfl) ?_
                refine lv_iload_n hx hb dX3_leads_109 rfl (lv_at hl 4 rfl) ?_
                refine mb_callSi (W.runS (As := [.int x2, .int x3]) (rest := []) ⟨hx, hb, hml, hown, hts⟩ (c_X3_isWider l x2 x3) (va_cwS 2 hts gX3_leads_X3_isWider rfl rfl rfl (by decide +kernel) ⟨Nat.le_of_ble_eq_true rfl, Nat.le_of_ble_eq_true rfl⟩) mb_preT rfl rfl hl.1 rfl (lv_room (Nat.le_of_ble_eq_true rfl)) dX3_leads_110 ⟨Nat.zero_le _, Nat.zero_le _⟩) ?_
                refine lv_if_ne (tgt := 130) hx hb dX3_leads_113 (by decide) (fun c_8 => ?_) (fun c_8 => ?_)
                · refine lv_iconst (v := (0 : Int32)) hx hb dX3_leads_130 (by decide) ?_
                  exact W.zret (v := (0 : Int32)) hx hb hr rfl (fun t ht hW => ⟨(0 : Int32), rfl, Eq.symm (hz.trans ((if_neg c_1).trans ((if_neg c_3).trans ((if_pos c_4).trans ((if_neg c_5).trans ((if_neg c_6).trans ((if_neg c_7).trans ((if_neg c_8).trans (rfl))))))))), ht⟩) (fun q h => by cases h) dX3_leads_131
                · refine lv_iload_n hx hb dX3_leads_116 rfl (lv_at hl 3 rfl) ?_
                  refine lv_iconst (v := (2 : Int32)) hx hb dX3_leads_117 (by decide) ?_
                  refine lv_icmp_ne (tgt := 126) hx hb dX3_leads_118 (by decide) (fun c_9 => ?_) (fun c_9 => ?_)
                  · refine lv_iconst (v := (1 : Int32)) hx hb dX3_leads_126 (by decide) ?_
                    refine lv_goto (tgt := 131) hx hb dX3_leads_127 (by decide) ?_
                    exact W.zret (v := (1 : Int32)) hx hb hr rfl (fun t ht hW => ⟨(1 : Int32), rfl, Eq.symm (hz.trans ((if_neg c_1).trans ((if_neg c_3).trans ((if_pos c_4).trans ((if_neg c_5).trans ((if_neg c_6).trans ((if_neg c_7).trans ((if_pos c_8).trans ((if_neg c_9).trans (rfl)))))))))), ht⟩) (fun q h => by cases h) dX3_leads_131
                  · refine lv_iload_n hx hb dX3_leads_121 rfl (lv_at hl 4 rfl) ?_
                    refine lv_iconst (v := (1 : Int32)) hx hb dX3_leads_122 (by decide) ?_
                    refine lv_icmp_eq (tgt := 130) hx hb dX3_leads_123 (by decide) (fun c_10 => ?_) (fun c_10 => ?_)
                    · refine lv_iconst (v := (0 : Int32)) hx hb dX3_leads_130 (by decide) ?_
                      exact W.zret (v := (0 : Int32)) hx hb hr rfl (fun t ht hW => ⟨(0 : Int32), rfl, Eq.symm (hz.trans ((if_neg c_1).trans ((if_neg c_3).trans ((if_pos c_4).trans ((if_neg c_5).trans ((if_neg c_6).trans ((if_neg c_7).trans ((if_pos c_8).trans ((if_pos c_9).trans ((if_pos c_10).trans (rfl))))))))))), ht⟩) (fun q h => by cases h) dX3_leads_131
                    · refine lv_iconst (v := (1 : Int32)) hx hb dX3_leads_126 (by decide) ?_
                      refine lv_goto (tgt := 131) hx hb dX3_leads_127 (by decide) ?_
                      exact W.zret (v := (1 : Int32)) hx hb hr rfl (fun t ht hW => ⟨(1 : Int32), rfl, Eq.symm (hz.trans ((if_neg c_1).trans ((if_neg c_3).trans ((if_pos c_4).trans ((if_neg c_5).trans ((if_neg c_6).trans ((if_neg c_7).trans ((if_pos c_8).trans ((if_pos c_9).trans ((if_neg c_10).trans (rfl))))))))))), ht⟩) (fun q h => by cases h) dX3_leads_131
        · by_cases c_11 : x1 = (4 : Int32)
          · refine lv_tableIn (tgt := 132) hx hb dX3_leads_14 (by rw [c_11]; decide) (by rw [c_11]; decide) (off := 118) (by rw [c_11]; decide) (by decide) ?_
            refine lv_iload_n hx hb dX3_leads_132 rfl (lv_at hl 3 rfl) ?_
            refine lv_iconst (v := (2 : Int32)) hx hb dX3_leads_133 (by decide) ?_
            refine lv_icmp_ne (tgt := 146) hx hb dX3_leads_134 (by decide) (fun c_12 => ?_) (fun c_12 => ?_)
            · refine lv_iconst (v := (0 : Int32)) hx hb dX3_leads_146 (by decide) ?_
              exact W.zret (v := (0 : Int32)) hx hb hr rfl (fun t ht hW => ⟨(0 : Int32), rfl, Eq.symm (hz.trans ((if_neg c_1).trans ((if_neg c_3).trans ((if_neg c_4).trans ((if_pos c_11).trans ((if_neg c_12).trans (rfl))))))), ht⟩) (fun q h => by cases h) dX3_leads_147
            · refine lv_iload_n hx hb dX3_leads_137 rfl (lv_at hl 4 rfl) ?_
              refine lv_iconst (v := (1 : Int32)) hx hb dX3_leads_138 (by decide) ?_
              refine lv_icmp_ne (tgt := 146) hx hb dX3_leads_139 (by decide) (fun c_13 => ?_) (fun c_13 => ?_)
              · refine lv_iconst (v := (0 : Int32)) hx hb dX3_leads_146 (by decide) ?_
                exact W.zret (v := (0 : Int32)) hx hb hr rfl (fun t ht hW => ⟨(0 : Int32), rfl, Eq.symm (hz.trans ((if_neg c_1).trans ((if_neg c_3).trans ((if_neg c_4).trans ((if_pos c_11).trans ((if_pos c_12).trans ((if_neg c_13).trans (rfl)))))))), ht⟩) (fun q h => by cases h) dX3_leads_147
              · refine lv_iconst (v := (1 : Int32)) hx hb dX3_leads_142 (by decide) ?_
                refine lv_goto (tgt := 147) hx hb dX3_leads_143 (by decide) ?_
                exact W.zret (v := (1 : Int32)) hx hb hr rfl (fun t ht hW => ⟨(1 : Int32), rfl, Eq.symm (hz.trans ((if_neg c_1).trans ((if_neg c_3).trans ((if_neg c_4).trans ((if_pos c_11).trans ((if_pos c_12).trans ((if_pos c_13).trans (rfl)))))))), ht⟩) (fun q h => by cases h) dX3_leads_147
          · by_cases c_14 : x1 = (5 : Int32)
            · refine lv_tableIn (tgt := 148) hx hb dX3_leads_14 (by rw [c_14]; decide) (by rw [c_14]; decide) (off := 134) (by rw [c_14]; decide) (by decide) ?_
              refine lv_iload hx hb dX3_leads_148 (lv_at hl 0 rfl) ?_
              refine lv_if_eq (tgt := 165) hx hb dX3_leads_150 (by decide) (fun c_15 => ?_) (fun c_15 => ?_)
              · refine lv_iconst (v := (0 : Int32)) hx hb dX3_leads_165 (by decide) ?_
                exact W.zret (v := (0 : Int32)) hx hb hr rfl (fun t ht hW => ⟨(0 : Int32), rfl, Eq.symm (hz.trans ((if_neg c_1).trans ((if_neg c_3).trans ((if_neg c_4).trans ((if_neg c_11).trans ((if_pos c_14).trans ((if_pos c_15).trans (rfl)))))))), ht⟩) (fun q h => by cases h) dX3_leads_166
              · refine lv_iload_n hx hb dX3_leads_153 rfl (lv_at hl 4 rfl) ?_
                refine lv_iload_n hx hb dX3_leads_154 rfl (lv_at hl 3 rfl) ?_
                refine lv_bipush (v := (8 : Int32)) hx hb dX3_leads_155 (by decide) ?_
                refine lv_iadd hx hb dX3_leads_157 ?_
                refine lv_icmp_ne (tgt := 165) hx hb dX3_leads_158 (by decide) (fun c_16 => ?_) (fun c_16 => ?_)
                · refine lv_iconst (v := (0 : Int32)) hx hb dX3_leads_165 (by decide) ?_
                  exact W.zret (v := (0 : Int32)) hx hb hr rfl (fun t ht hW => ⟨(0 : Int32), rfl, Eq.symm (hz.trans ((if_neg c_1).trans ((if_neg c_3).trans ((if_neg c_4).trans ((if_neg c_11).trans ((if_pos c_14).trans ((if_neg c_15).trans ((if_neg c_16).trans (rfl))))))))), ht⟩) (fun q h => by cases h) dX3_leads_166
                · refine lv_iconst (v := (1 : Int32)) hx hb dX3_leads_161 (by decide) ?_
                  refine lv_goto (tgt := 166) hx hb dX3_leads_162 (by decide) ?_
                  exact W.zret (v := (1 : Int32)) hx hb hr rfl (fun t ht hW => ⟨(1 : Int32), rfl, Eq.symm (hz.trans ((if_neg c_1).trans ((if_neg c_3).trans ((if_neg c_4).trans ((if_neg c_11).trans ((if_pos c_14).trans ((if_neg c_15).trans ((if_pos c_16).trans (rfl))))))))), ht⟩) (fun q h => by cases h) dX3_leads_166
            · by_cases c_17 : x1 = (6 : Int32)
              · refine lv_tableIn (tgt := 167) hx hb dX3_leads_14 (by rw [c_17]; decide) (by rw [c_17]; decide) (off := 153) (by rw [c_17]; decide) (by decide) ?_
                refine lv_iload hx hb dX3_leads_167 (lv_at hl 0 rfl) ?_
                refine lv_if_eq (tgt := 188) hx hb dX3_leads_169 (by decide) (fun c_18 => ?_) (fun c_18 => ?_)
                · refine lv_iconst (v := (0 : Int32)) hx hb dX3_leads_188 (by decide) ?_
                  exact W.zret (v := (0 : Int32)) hx hb hr rfl (fun t ht hW => ⟨(0 : Int32), rfl, Eq.symm (hz.trans ((if_neg c_1).trans ((if_neg c_3).trans ((if_neg c_4).trans ((if_neg c_11).trans ((if_neg c_14).trans ((if_pos c_17).trans ((if_pos c_18).trans (rfl))))))))), ht⟩) (fun q h => by cases h) dX3_leads_189
                · refine lv_aload_n hx hb dX3_leads_172 rfl (lv_at hl 1 rfl) ?_
                  refine lv_iload_n hx hb dX3_leads_173 rfl (lv_at hl 3 rfl) ?_
                  refine lv_bipush (v := (8 : Int32)) hx hb dX3_leads_174 (by decide) ?_
                  refine lv_iadd hx hb dX3_leads_176 ?_
                  refine lv_iload_n hx hb dX3_leads_177 rfl (lv_at hl 4 rfl) ?_
                  refine mb_callSi (W.runV (As := [.int (x2 + (8 : Int32)), .int x3]) (rest := []) ⟨hx, hb, hml, hown, hts⟩ (c_X3_isUp l dC dI cyI cyZ cyJ h3 e0 e1 e2 e3 e4 e5 e6 so fi el av un ty kp bt oc th (x2 + (8 : Int32)) x3 (mb_add8 g2 (Or.resolve_left hp c_18)) g3) (cwV 2 hts gX3_leads_X3_isUp rfl rfl rfl (by decide +kernel) ⟨Nat.le_of_ble_eq_true rfl, Nat.le_of_ble_eq_true rfl⟩) (mb_preV hK hP (ci := 5) (q0 := 0) rfl rfl) rfl rfl hl.1 rfl (lv_room (Nat.le_of_ble_eq_true rfl)) dX3_leads_178 ⟨Nat.zero_le _, Nat.zero_le _⟩) ?_
                  refine lv_if_eq (tgt := 188) hx hb dX3_leads_181 (by decide) (fun c_19 => ?_) (fun c_19 => ?_)
                  · refine lv_iconst (v := (0 : Int32)) hx hb dX3_leads_188 (by decide) ?_
                    exact W.zret (v := (0 : Int32)) hx hb hr rfl (fun t ht hW => ⟨(0 : Int32), rfl, Eq.symm (hz.trans ((if_neg c_1).trans ((if_neg c_3).trans ((if_neg c_4).trans ((if_neg c_11).trans ((if_neg c_14).trans ((if_pos c_17).trans ((if_neg c_18).trans ((if_pos c_19).trans (rfl)))))))))), ht⟩) (fun q h => by cases h) dX3_leads_189
                  · refine lv_iconst (v := (1 : Int32)) hx hb dX3_leads_184 (by decide) ?_
                    refine lv_goto (tgt := 189) hx hb dX3_leads_185 (by decide) ?_
                    exact W.zret (v := (1 : Int32)) hx hb hr rfl (fun t ht hW => ⟨(1 : Int32), rfl, Eq.symm (hz.trans ((if_neg c_1).trans ((if_neg c_3).trans ((if_neg c_4).trans ((if_neg c_11).trans ((if_neg c_14).trans ((if_pos c_17).trans ((if_neg c_18).trans ((if_neg c_19).trans (rfl)))))))))), ht⟩) (fun q h => by cases h) dX3_leads_189
              · by_cases c_20 : x1 = (7 : Int32)
                · refine lv_tableIn (tgt := 190) hx hb dX3_leads_14 (by rw [c_20]; decide) (by rw [c_20]; decide) (off := 176) (by rw [c_20]; decide) (by decide) ?_
                  refine lv_iload_n hx hb dX3_leads_190 rfl (lv_at hl 3 rfl) ?_
                  refine mb_callSi (W.runS (As := [.int x2]) (rest := []) ⟨hx, hb, hml, hown, hts⟩ (c_X3_isBox l x2) (va_cwS 1 hts gX3_leads_X3_isBox rfl rfl rfl (by decide +kernel) ⟨Nat.le_of_ble_eq_true rfl, Nat.le_of_ble_eq_true rfl⟩) mb_preT rfl rfl hl.1 rfl (lv_room (Nat.le_of_ble_eq_true rfl)) dX3_leads_191 ⟨Nat.zero_le _, Nat.zero_le _⟩) ?_
                  refine lv_if_eq (tgt := 209) hx hb dX3_leads_194 (by decide) (fun c_21 => ?_) (fun c_21 => ?_)
                  · refine lv_iconst (v := (0 : Int32)) hx hb dX3_leads_209 (by decide) ?_
                    exact W.zret (v := (0 : Int32)) hx hb hr rfl (fun t ht hW => ⟨(0 : Int32), rfl, Eq.symm (hz.trans ((if_neg c_1).trans ((if_neg c_3).trans ((if_neg c_4).trans ((if_neg c_11).trans ((if_neg c_14).trans ((if_neg c_17).trans ((if_pos c_20).trans ((if_pos c_21).trans (rfl)))))))))), ht⟩) (fun q h => by cases h) dX3_leads_210
                  · refine lv_iload_n hx hb dX3_leads_197 rfl (lv_at hl 4 rfl) ?_
                    refine lv_iload_n hx hb dX3_leads_198 rfl (lv_at hl 3 rfl) ?_
                    refine lv_bipush (v := (8 : Int32)) hx hb dX3_leads_199 (by decide) ?_
                    refine lv_isub hx hb dX3_leads_201 ?_
                    refine lv_icmp_ne (tgt := 209) hx hb dX3_leads_202 (by decide) (fun c_22 => ?_) (fun c_22 => ?_)
                    · refine lv_iconst (v := (0 : Int32)) hx hb dX3_leads_209 (by decide) ?_
                      exact W.zret (v := (0 : Int32)) hx hb hr rfl (fun t ht hW => ⟨(0 : Int32), rfl, Eq.symm (hz.trans ((if_neg c_1).trans ((if_neg c_3).trans ((if_neg c_4).trans ((if_neg c_11).trans ((if_neg c_14).trans ((if_neg c_17).trans ((if_pos c_20).trans ((if_neg c_21).trans ((if_neg c_22).trans (rfl))))))))))), ht⟩) (fun q h => by cases h) dX3_leads_210
                    · refine lv_iconst (v := (1 : Int32)) hx hb dX3_leads_205 (by decide) ?_
                      refine lv_goto (tgt := 210) hx hb dX3_leads_206 (by decide) ?_
                      exact W.zret (v := (1 : Int32)) hx hb hr rfl (fun t ht hW => ⟨(1 : Int32), rfl, Eq.symm (hz.trans ((if_neg c_1).trans ((if_neg c_3).trans ((if_neg c_4).trans ((if_neg c_11).trans ((if_neg c_14).trans ((if_neg c_17).trans ((if_pos c_20).trans ((if_neg c_21).trans ((if_pos c_22).trans (rfl))))))))))), ht⟩) (fun q h => by cases h) dX3_leads_210
                · by_cases c_23 : x1 = (8 : Int32)
                  · refine lv_tableIn (tgt := 211) hx hb dX3_leads_14 (by rw [c_23]; decide) (by rw [c_23]; decide) (off := 197) (by rw [c_23]; decide) (by decide) ?_
                    refine lv_iload_n hx hb dX3_leads_211 rfl (lv_at hl 3 rfl) ?_
                    refine mb_callSi (W.runS (As := [.int x2]) (rest := []) ⟨hx, hb, hml, hown, hts⟩ (c_X3_isBox l x2) (va_cwS 1 hts gX3_leads_X3_isBox rfl rfl rfl (by decide +kernel) ⟨Nat.le_of_ble_eq_true rfl, Nat.le_of_ble_eq_true rfl⟩) mb_preT rfl rfl hl.1 rfl (lv_room (Nat.le_of_ble_eq_true rfl)) dX3_leads_212 ⟨Nat.zero_le _, Nat.zero_le _⟩) ?_
                    refine lv_if_eq (tgt := 233) hx hb dX3_leads_215 (by decide) (fun c_24 => ?_) (fun c_24 => ?_)
                    · refine lv_iconst (v := (0 : Int32)) hx hb dX3_leads_233 (by decide) ?_
                      exact W.zret (v := (0 : Int32)) hx hb hr rfl (fun t ht hW => ⟨(0 : Int32), rfl, Eq.symm (hz.trans ((if_neg c_1).trans ((if_neg c_3).trans ((if_neg c_4).trans ((if_neg c_11).trans ((if_neg c_14).trans ((if_neg c_17).trans ((if_neg c_20).trans ((if_pos c_23).trans ((if_pos c_24).trans (rfl))))))))))), ht⟩) (fun q h => by cases h) dX3_leads_234
                    · refine lv_iload_n hx hb dX3_leads_218 rfl (lv_at hl 3 rfl) ?_
                      refine lv_bipush (v := (8 : Int32)) hx hb dX3_leads_219 (by decide) ?_
                      refine lv_isub hx hb dX3_leads_221 ?_
                      refine lv_iload_n hx hb dX3_leads_222 rfl (lv_at hl 4 rfl) ?_
                      refine mb_callSi (W.runS (As := [.int (x2 - (8 : Int32)), .int x3]) (rest := []) ⟨hx, hb, hml, hown, hts⟩ (c_X3_isWider l (x2 - (8 : Int32)) x3) (va_cwS 2 hts gX3_leads_X3_isWider rfl rfl rfl (by decide +kernel) ⟨Nat.le_of_ble_eq_true rfl, Nat.le_of_ble_eq_true rfl⟩) mb_preT rfl rfl hl.1 rfl (lv_room (Nat.le_of_ble_eq_true rfl)) dX3_leads_223 ⟨Nat.zero_le _, Nat.zero_le _⟩) ?_
                      refine lv_if_eq (tgt := 233) hx hb dX3_leads_226 (by decide) (fun c_25 => ?_) (fun c_25 => ?_)
                      · refine lv_iconst (v := (0 : Int32)) hx hb dX3_leads_233 (by decide) ?_
                        exact W.zret (v := (0 : Int32)) hx hb hr rfl (fun t ht hW => ⟨(0 : Int32), rfl, Eq.symm (hz.trans ((if_neg c_1).trans ((if_neg c_3).trans ((if_neg c_4).trans ((if_neg c_11).trans ((if_neg c_14).trans ((if_neg c_17).trans ((if_neg c_20).trans ((if_pos c_23).trans ((if_neg c_24).trans ((if_pos c_25).trans (rfl)))))))))))), ht⟩) (fun q h => by cases h) dX3_leads_234
                      · refine lv_iconst (v := (1 : Int32)) hx hb dX3_leads_229 (by decide) ?_
                        refine lv_goto (tgt := 234) hx hb dX3_leads_230 (by decide) ?_
                        exact W.zret (v := (1 : Int32)) hx hb hr rfl (fun t ht hW => ⟨(1 : Int32), rfl, Eq.symm (hz.trans ((if_neg c_1).trans ((if_neg c_3).trans ((if_neg c_4).trans ((if_neg c_11).trans ((if_neg c_14).trans ((if_neg c_17).trans ((if_neg c_20).trans ((if_pos c_23).trans ((if_neg c_24).trans ((if_neg c_25).trans (rfl)))))))))))), ht⟩) (fun q h => by cases h) dX3_leads_234
                  · by_cases c_26 : x1 = (9 : Int32)
                    · refine lv_tableIn (tgt := 235) hx hb dX3_leads_14 (by rw [c_26]; decide) (by rw [c_26]; decide) (off := 221) (by rw [c_26]; decide) (by decide) ?_
                      refine lv_aload_n hx hb dX3_leads_235 rfl (lv_at hl 1 rfl) ?_
                      refine lv_iload_n hx hb dX3_leads_236 rfl (lv_at hl 3 rfl) ?_
                      refine lv_iload_n hx hb dX3_leads_237 rfl (lv_at hl 4 rfl) ?_
                      refine mb_callSi (W.runV (As := [.int x2, .int x3]) (rest := []) ⟨hx, hb, hml, hown, hts⟩ (c_X3_isUp l dC dI cyI cyZ cyJ h3 e0 e1 e2 e3 e4 e5 e6 so fi el av un ty kp bt oc th x2 x3 g2 g3) (cwV 2 hts gX3_leads_X3_isUp rfl rfl rfl (by decide +kernel) ⟨Nat.le_of_ble_eq_true rfl, Nat.le_of_ble_eq_true rfl⟩) (mb_preV hK hP (ci := 5) (q0 := 0) rfl rfl) rfl rfl hl.1 rfl (lv_room (Nat.le_of_ble_eq_true rfl)) dX3_leads_238 ⟨Nat.zero_le _, Nat.zero_le _⟩) ?_
                      exact W.zret (v := (f_X3_isUp so fi el av un ty kp bt oc x2 x3)) hx hb hr (nb_X3_isUp so fi el av un ty kp bt oc x2 x3) (fun t ht hW => ⟨(f_X3_isUp so fi el av un ty kp bt oc x2 x3), rfl, Eq.symm (hz.trans ((if_neg c_1).trans ((if_neg c_3).trans ((if_neg c_4).trans ((if_neg c_11).trans ((if_neg c_14).trans ((if_neg c_17).trans ((if_neg c_20).trans ((if_neg c_23).trans ((if_pos c_26).trans (rfl))))))))))), ht⟩) (fun q h => by cases h) dX3_leads_241
                    · by_cases c_27 : x1 = (10 : Int32)
                      · refine lv_tableIn (tgt := 242) hx hb dX3_leads_14 (by rw [c_27]; decide) (by rw [c_27]; decide) (off := 228) (by rw [c_27]; decide) (by decide) ?_
                        refine lv_aload_n hx hb dX3_leads_242 rfl (lv_at hl 1 rfl) ?_
                        refine lv_iload_n hx hb dX3_leads_243 rfl (lv_at hl 3 rfl) ?_
                        refine lv_iload_n hx hb dX3_leads_244 rfl (lv_at hl 4 rfl) ?_
                        refine mb_callSi (W.runV (As := [.int x2, .int x3]) (rest := []) ⟨hx, hb, hml, hown, hts⟩ (c_X3_isDown l dC dI cyI cyZ cyJ h3 e0 e1 e2 e3 e4 e5 e6 so fi el av un ty kp bt oc th x2 x3 g2 g3 ge) (cwV 2 hts gX3_leads_X3_isDown rfl rfl rfl (by decide +kernel) ⟨Nat.le_of_ble_eq_true rfl, Nat.le_of_ble_eq_true rfl⟩) (mb_preV hK hP (ci := 5) (q0 := 0) rfl rfl) rfl rfl hl.1 rfl (lv_room (Nat.le_of_ble_eq_true rfl)) dX3_leads_245 ⟨Nat.zero_le _, Nat.zero_le _⟩) ?_
                        exact W.zret (v := (f_X3_isDown so fi el av un ty kp bt oc x2 x3)) hx hb hr (nb_X3_isDown so fi el av un ty kp bt oc x2 x3) (fun t ht hW => ⟨(f_X3_isDown so fi el av un ty kp bt oc x2 x3), rfl, Eq.symm (hz.trans ((if_neg c_1).trans ((if_neg c_3).trans ((if_neg c_4).trans ((if_neg c_11).trans ((if_neg c_14).trans ((if_neg c_17).trans ((if_neg c_20).trans ((if_neg c_23).trans ((if_neg c_26).trans ((if_pos c_27).trans (rfl)))))))))))), ht⟩) (fun q h => by cases h) dX3_leads_248
                      · by_cases c_28 : x1 = (11 : Int32)
                        · refine lv_tableIn (tgt := 249) hx hb dX3_leads_14 (by rw [c_28]; decide) (by rw [c_28]; decide) (off := 235) (by rw [c_28]; decide) (by decide) ?_
                          refine lv_iload_n hx hb dX3_leads_249 rfl (lv_at hl 4 rfl) ?_
                          refine lv_bipush (v := (8 : Int32)) hx hb dX3_leads_250 (by decide) ?_
                          refine lv_icmp_ge (tgt := 271) hx hb dX3_leads_252 (by decide) (fun c_29 => ?_) (fun c_29 => ?_)
                          · refine lv_iconst (v := (0 : Int32)) hx hb dX3_leads_271 (by decide) ?_
                            exact W.zret (v := (0 : Int32)) hx hb hr rfl (fun t ht hW => ⟨(0 : Int32), rfl, Eq.symm (hz.trans ((if_neg c_1).trans ((if_neg c_3).trans ((if_neg c_4).trans ((if_neg c_11).trans ((if_neg c_14).trans ((if_neg c_17).trans ((if_neg c_20).trans ((if_neg c_23).trans ((if_neg c_26).trans ((if_neg c_27).trans ((if_pos c_28).trans ((if_pos c_29).trans (rfl)))))))))))))), ht⟩) (fun q h => by cases h) dX3_leads_272
                          · refine lv_aload_n hx hb dX3_leads_255 rfl (lv_at hl 1 rfl) ?_
                            refine lv_iload_n hx hb dX3_leads_256 rfl (lv_at hl 3 rfl) ?_
                            refine lv_iload_n hx hb dX3_leads_257 rfl (lv_at hl 4 rfl) ?_
                            refine lv_bipush (v := (8 : Int32)) hx hb dX3_leads_258 (by decide) ?_
                            refine lv_iadd hx hb dX3_leads_260 ?_
                            refine mb_callSi (W.runV (As := [.int x2, .int (x3 + (8 : Int32))]) (rest := []) ⟨hx, hb, hml, hown, hts⟩ (c_X3_isDown l dC dI cyI cyZ cyJ h3 e0 e1 e2 e3 e4 e5 e6 so fi el av un ty kp bt oc th x2 (x3 + (8 : Int32)) g2 (mb_add8 g3 c_29) ge) (cwV 2 hts gX3_leads_X3_isDown rfl rfl rfl (by decide +kernel) ⟨Nat.le_of_ble_eq_true rfl, Nat.le_of_ble_eq_true rfl⟩) (mb_preV hK hP (ci := 5) (q0 := 0) rfl rfl) rfl rfl hl.1 rfl (lv_room (Nat.le_of_ble_eq_true rfl)) dX3_leads_261 ⟨Nat.zero_le _, Nat.zero_le _⟩) ?_
                            refine lv_if_eq (tgt := 271) hx hb dX3_leads_264 (by decide) (fun c_30 => ?_) (fun c_30 => ?_)
                            · refine lv_iconst (v := (0 : Int32)) hx hb dX3_leads_271 (by decide) ?_
                              exact W.zret (v := (0 : Int32)) hx hb hr rfl (fun t ht hW => ⟨(0 : Int32), rfl, Eq.symm (hz.trans ((if_neg c_1).trans ((if_neg c_3).trans ((if_neg c_4).trans ((if_neg c_11).trans ((if_neg c_14).trans ((if_neg c_17).trans ((if_neg c_20).trans ((if_neg c_23).trans ((if_neg c_26).trans ((if_neg c_27).trans ((if_pos c_28).trans ((if_neg c_29).trans ((if_pos c_30).trans (rfl))))))))))))))), ht⟩) (fun q h => by cases h) dX3_leads_272
                            · refine lv_iconst (v := (1 : Int32)) hx hb dX3_leads_267 (by decide) ?_
                              refine lv_goto (tgt := 272) hx hb dX3_leads_268 (by decide) ?_
                              exact W.zret (v := (1 : Int32)) hx hb hr rfl (fun t ht hW => ⟨(1 : Int32), rfl, Eq.symm (hz.trans ((if_neg c_1).trans ((if_neg c_3).trans ((if_neg c_4).trans ((if_neg c_11).trans ((if_neg c_14).trans ((if_neg c_17).trans ((if_neg c_20).trans ((if_neg c_23).trans ((if_neg c_26).trans ((if_neg c_27).trans ((if_pos c_28).trans ((if_neg c_29).trans ((if_neg c_30).trans (rfl))))))))))))))), ht⟩) (fun q h => by cases h) dX3_leads_272
                        · refine lv_tableOut (tgt := 273) hx hb dX3_leads_14 (by have nc_1 := lv_neT c_1 (a := 1) (by decide); have nc_3 := lv_neT c_3 (a := 2) (by decide); have nc_4 := lv_neT c_4 (a := 3) (by decide); have nc_11 := lv_neT c_11 (a := 4) (by decide); have nc_14 := lv_neT c_14 (a := 5) (by decide); have nc_17 := lv_neT c_17 (a := 6) (by decide); have nc_20 := lv_neT c_20 (a := 7) (by decide); have nc_23 := lv_neT c_23 (a := 8) (by decide); have nc_26 := lv_neT c_26 (a := 9) (by decide); have nc_27 := lv_neT c_27 (a := 10) (by decide); have nc_28 := lv_neT c_28 (a := 11) (by decide); omega) (by decide) ?_
                          refine lv_iload_n hx hb dX3_leads_273 rfl (lv_at hl 4 rfl) ?_
                          refine lv_bipush (v := (21 : Int32)) hx hb dX3_leads_274 (by decide) ?_
                          refine lv_icmp_ne (tgt := 283) hx hb dX3_leads_276 (by decide) (fun c_31 => ?_) (fun c_31 => ?_)
                          · refine lv_iconst (v := (0 : Int32)) hx hb dX3_leads_283 (by decide) ?_
                            exact W.zret (v := (0 : Int32)) hx hb hr rfl (fun t ht hW => ⟨(0 : Int32), rfl, Eq.symm (hz.trans ((if_neg c_1).trans ((if_neg c_3).trans ((if_neg c_4).trans ((if_neg c_11).trans ((if_neg c_14).trans ((if_neg c_17).trans ((if_neg c_20).trans ((if_neg c_23).trans ((if_neg c_26).trans ((if_neg c_27).trans ((if_neg c_28).trans ((if_neg c_31).trans (rfl)))))))))))))), ht⟩) (fun q h => by cases h) dX3_leads_284
                          · refine lv_iconst (v := (1 : Int32)) hx hb dX3_leads_279 (by decide) ?_
                            refine lv_goto (tgt := 284) hx hb dX3_leads_280 (by decide) ?_
                            exact W.zret (v := (1 : Int32)) hx hb hr rfl (fun t ht hW => ⟨(1 : Int32), rfl, Eq.symm (hz.trans ((if_neg c_1).trans ((if_neg c_3).trans ((if_neg c_4).trans ((if_neg c_11).trans ((if_neg c_14).trans ((if_neg c_17).trans ((if_neg c_20).trans ((if_neg c_23).trans ((if_neg c_26).trans ((if_neg c_27).trans ((if_neg c_28).trans ((if_pos c_31).trans (rfl)))))))))))))), ht⟩) (fun q h => by cases h) dX3_leads_284
  have hl := lv_entry ([.ref h3, .int x1, .int x2, .int x3]) (n := 5) (Nat.le_of_ble_eq_true rfl)
  rw [lg_entry_eq]
  generalize (lg_sl ([.ref h3, .int x1, .int x2, .int x3]) ++ List.replicate (5 - (lg_sl ([.ref h3, .int x1, .int x2, .int x3])).length) Slot.unset).toArray = ls at hl ⊢
  have hl : lv_has ls 5 [(0, .ref h3), (1, .int x1), (2, .int x2), (3, .int x3)] := hl
  refine lv_iload_n hx hb dX3_leads_0 rfl (lv_at hl 2 rfl) ?_
  refine lv_bipush (v := (8 : Int32)) hx hb dX3_leads_1 (by decide) ?_
  refine lv_icmp_ge (tgt := 10) hx hb dX3_leads_3 (by decide) (fun c_32 => ?_) (fun c_32 => ?_)
  · refine lv_iconst (v := (0 : Int32)) hx hb dX3_leads_10 (by decide) ?_
    exact K_11 (0 : Int32) ls (Or.inl rfl) (lv_sub hl [0, 1, 2, 3] rfl) ((if_pos c_32).trans (rfl))
  · refine lv_iconst (v := (1 : Int32)) hx hb dX3_leads_6 (by decide) ?_
    refine lv_goto (tgt := 11) hx hb dX3_leads_7 (by decide) ?_
    exact K_11 (1 : Int32) ls (Or.inr c_32) (lv_sub hl [0, 1, 2, 3] rfl) ((if_neg c_32).trans (rfl))
def f_X3_kindOf_3 : Nat → (Nat → Int32) → (Nat → Int32) → (Nat → Int32) → (Nat → Int32) → (Nat → Int32) → Int32 → (Nat → Int32) → (Nat → Int64) → Int32 → Int32 → Int32 → Int32 → Int32 → Int32
  | 0, _, _, _, _, _, _, _, _, _, _, _, _, _ => 0
  | k + 1, so, fi, el, av, un, ty, kp, bt, oc, x1, x2, x3, kk => if (13 : Int32) ≤ kk then (0 : Int32)
  else if (f_X3_isAllowed kk x3 x2) = 0 then f_X3_kindOf_3 k so fi el av un ty kp bt oc x1 x2 x3 (kk + (1 : Int32))
  else if (f_X3_leads so fi el av un ty kp bt oc kk x1 x2) = 0 then f_X3_kindOf_3 k so fi el av un ty kp bt oc x1 x2 x3 (kk + (1 : Int32))
  else kk
def f_X3_kindOf (so : Nat → Int32) (fi : Nat → Int32) (el : Nat → Int32) (av : Nat → Int32) (un : Nat → Int32) (ty : Int32) (kp : Nat → Int32) (bt : Nat → Int64) (oc : Int32) (x1 : Int32) (x2 : Int32) (x3 : Int32) : Int32 := f_X3_kindOf_3 13 so fi el av un ty kp bt oc x1 x2 x3 (1 : Int32)
set_option maxHeartbeats 4000000 in
set_option maxRecDepth 100000 in
theorem c_X3_kindOf (l : Launch) (dC : Nat → ClassId) (dI : Nat → Nat → Nat) (cyI cyZ cyJ : ClassId) (h3 e0 e1 e2 e3 e4 e5 e6 : Nat) (so : Nat → Int32) (fi : Nat → Int32) (el : Nat → Int32) (av : Nat → Int32) (un : Nat → Int32) (ty : Int32) (kp : Nat → Int32) (bt : Nat → Int64) (oc : Int32) (th : Int32) (x1 : Int32) (x2 : Int32) (x3 : Int32) (g1 : vp_in x1 40) (g2 : vp_in x2 40) (ge : mb_EL so el) : Met l yX3_kindOf wsX3_kindOf ({ frames := 4, cells := 0, slots := 0, locals := 91 }) (va_Pc [.ref h3, .int x1, .int x2, .int x3] (mb_R (dC, dI) (mb_tys cyI cyZ cyJ) [(h3, .inr (5, [.int th, .int ty, .ref e0, .ref e1, .ref e2, .ref e3, .ref e4, .int oc, .ref e5, .ref e6])), (e0, .inl (cyI, 40, .inl so)), (e1, .inl (cyZ, 40, .inl fi)), (e2, .inl (cyI, 40, .inl el)), (e3, .inl (cyI, 120, .inl av)), (e4, .inl (cyZ, 1600, .inl un)), (e5, .inl (cyI, 60, .inl kp)), (e6, .inl (cyJ, 60, .inr (.inl bt)))])) (vp_Si (fun r => r = f_X3_kindOf so fi el av un ty kp bt oc x1 x2 x3)) 0 0 (fun _ => False) := by
  refine Met.ofW (cc := cX3_kindOf) (maxL := 5) (ret := (some .int)) (by decide) rfl ?_
  intro p e s m args below meth c s₁ B hml hv
  obtain ⟨rfl, hP, hK⟩ := hv
  have hx := B.exec
  have hb := B.bytes
  have hr := B.returns
  have hts := atoms_spec (ws := wsX3_kindOf) B.pre
  have hown : s.vm.findClass RX3 = some m.cls := findClass_of_methodNamed B.named
  have hlocks := B.notSynchronized
  have hP : va_P (dC, dI) vwCl [(h3, .inr (5, [.int th, .int ty, .ref e0, .ref e1, .ref e2, .ref e3, .ref e4, .int oc, .ref e5, .ref e6])), (e0, .inl (cyI, 40, .inl so)), (e1, .inl (cyZ, 40, .inl fi)), (e2, .inl (cyI, 40, .inl el)), (e3, .inl (cyI, 120, .inl av)), (e4, .inl (cyZ, 1600, .inl un)), (e5, .inl (cyI, 60, .inl kp)), (e6, .inl (cyJ, 60, .inr (.inl bt)))] s.heap := hP
  have hP0 : va_P (dC, dI) vwCl [] s.heap := fun k q h => by simp at h
  have K_3 : ∀ (k : Nat) (kk : Int32) (ls : Array Slot) (hc : 1 ≤ kk.toInt ∧ kk.toInt ≤ 13 ∧ 13 < kk.toInt + k), lv_has ls 5 [(0, .ref h3), (1, .int x1), (2, .int x2), (3, .int x3), (4, .int kk)] → f_X3_kindOf so fi el av un ty kp bt oc x1 x2 x3 = f_X3_kindOf_3 k so fi el av un ty kp bt oc x1 x2 x3 kk → W p l e (headSpec wsX3_kindOf ({ frames := 4, cells := 0, slots := 0, locals := 91 })).room s m ([.ref h3, .int x1, .int x2, .int x3] : List Value).toArray below meth c s.heap [] 0 0 (MQ below (vp_Si (fun r => r = f_X3_kindOf so fi el av un ty kp bt oc x1 x2 x3)) ([.ref h3, .int x1, .int x2, .int x3] : List Value).toArray s 0 0 (fun _ => False)) (F0 m 3 ls []) := by
    intro k
    induction k with
    | zero =>
      intro kk ls hc
      exact absurd hc (by omega)
    | succ k ih =>
      intro kk ls hc hl hz
      refine lv_iload hx hb dX3_kindOf_3 (lv_at hl 4 rfl) ?_
      refine lv_bipush (v := (13 : Int32)) hx hb dX3_kindOf_5 (by decide) ?_
      refine lv_icmp_ge (tgt := 40) hx hb dX3_kindOf_7 (by decide) (fun c_1 => ?_) (fun c_1 => ?_)
      · refine lv_iconst (v := (0 : Int32)) hx hb dX3_kindOf_40 (by decide) ?_
        exact W.iret (v := (0 : Int32)) hx hb hr (fun t ht hW => ⟨(0 : Int32), rfl, Eq.symm (hz.trans ((if_pos c_1).trans (rfl))), ht⟩) (fun q h => by cases h) dX3_kindOf_41
      · refine lv_iload hx hb dX3_kindOf_10 (lv_at hl 4 rfl) ?_
        refine lv_iload_n hx hb dX3_kindOf_12 rfl (lv_at hl 3 rfl) ?_
        refine lv_iload_n hx hb dX3_kindOf_13 rfl (lv_at hl 2 rfl) ?_
        refine mb_callSi (W.runS (As := [.int kk, .int x3, .int x2]) (rest := []) ⟨hx, hb, hml, hown, hts⟩ (c_X3_isAllowed l kk x3 x2) (va_cwS 3 hts gX3_kindOf_X3_isAllowed rfl rfl rfl (by decide +kernel) ⟨Nat.le_of_ble_eq_true rfl, Nat.le_of_ble_eq_true rfl⟩) mb_preT rfl rfl hl.1 rfl (lv_room (Nat.le_of_ble_eq_true rfl)) dX3_kindOf_14 ⟨Nat.zero_le _, Nat.zero_le _⟩) ?_
        refine lv_if_eq (tgt := 34) hx hb dX3_kindOf_17 (by decide) (fun c_2 => ?_) (fun c_2 => ?_)
        · refine lv_iinc (v := (kk + (1 : Int32))) (lv' := [(4, .int (kk + (1 : Int32))), (0, .ref h3), (1, .int x1), (2, .int x2), (3, .int x3)]) hx hb dX3_kindOf_34 hl (k := 4) rfl rfl (by decide) rfl (fun ls hl => ?_)
          refine lv_goto (tgt := 3) hx hb dX3_kindOf_37 (by decide) ?_
          exact ih (kk + (1 : Int32)) ls (mb_k13_step hc c_1) (lv_sub hl [1, 2, 3, 4, 0] rfl) (hz.trans ((if_neg c_1).trans ((if_pos c_2).trans (rfl))))
        · refine lv_aload_n hx hb dX3_kindOf_20 rfl (lv_at hl 0 rfl) ?_
          refine lv_iload hx hb dX3_kindOf_21 (lv_at hl 4 rfl) ?_
          refine lv_iload_n hx hb dX3_kindOf_23 rfl (lv_at hl 1 rfl) ?_
          refine lv_iload_n hx hb dX3_kindOf_24 rfl (lv_at hl 2 rfl) ?_
          refine mb_callSi (W.runV (As := [.int kk, .int x1, .int x2]) (rest := []) ⟨hx, hb, hml, hown, hts⟩ (c_X3_leads l dC dI cyI cyZ cyJ h3 e0 e1 e2 e3 e4 e5 e6 so fi el av un ty kp bt oc th kk x1 x2 g1 g2 ge) (cwV 3 hts gX3_kindOf_X3_leads rfl rfl rfl (by decide +kernel) ⟨Nat.le_of_ble_eq_true rfl, Nat.le_of_ble_eq_true rfl⟩) (mb_preV hK hP (ci := 5) (q0 := 0) rfl rfl) rfl rfl hl.1 rfl (lv_room (Nat.le_of_ble_eq_true rfl)) dX3_kindOf_25 ⟨Nat.zero_le _, Nat.zero_le _⟩) ?_
          refine lv_if_eq (tgt := 34) hx hb dX3_kindOf_28 (by decide) (fun c_3 => ?_) (fun c_3 => ?_)
          · refine lv_iinc (v := (kk + (1 : Int32))) (lv' := [(4, .int (kk + (1 : Int32))), (0, .ref h3), (1, .int x1), (2, .int x2), (3, .int x3)]) hx hb dX3_kindOf_34 hl (k := 4) rfl rfl (by decide) rfl (fun ls hl => ?_)
            refine lv_goto (tgt := 3) hx hb dX3_kindOf_37 (by decide) ?_
            exact ih (kk + (1 : Int32)) ls (mb_k13_step hc c_1) (lv_sub hl [1, 2, 3, 4, 0] rfl) (hz.trans ((if_neg c_1).trans ((if_neg c_2).trans ((if_pos c_3).trans (rfl)))))
          · refine lv_iload hx hb dX3_kindOf_31 (lv_at hl 4 rfl) ?_
            exact W.iret (v := kk) hx hb hr (fun t ht hW => ⟨kk, rfl, Eq.symm (hz.trans ((if_neg c_1).trans ((if_neg c_2).trans ((if_neg c_3).trans (rfl))))), ht⟩) (fun q h => by cases h) dX3_kindOf_33
  have hl := lv_entry ([.ref h3, .int x1, .int x2, .int x3]) (n := 5) (Nat.le_of_ble_eq_true rfl)
  rw [lg_entry_eq]
  generalize (lg_sl ([.ref h3, .int x1, .int x2, .int x3]) ++ List.replicate (5 - (lg_sl ([.ref h3, .int x1, .int x2, .int x3])).length) Slot.unset).toArray = ls at hl ⊢
  have hl : lv_has ls 5 [(0, .ref h3), (1, .int x1), (2, .int x2), (3, .int x3)] := hl
  refine lv_iconst (v := (1 : Int32)) hx hb dX3_kindOf_0 (by decide) ?_
  refine lv_istore (lv' := [(4, .int (1 : Int32)), (0, .ref h3), (1, .int x1), (2, .int x2), (3, .int x3)]) hx hb dX3_kindOf_1 hl (by decide) rfl (fun ls hl => ?_)
  exact K_3 13 (1 : Int32) ls (by decide) (lv_sub hl [1, 2, 3, 4, 0] rfl) (rfl)

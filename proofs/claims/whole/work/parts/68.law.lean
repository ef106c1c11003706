set_option maxHeartbeats 8000000 in
set_option maxRecDepth 100000 in
theorem lw_c15 {p : Program} {l : Launch} {e : Env} {s : State} {m : MethodId} {below : List Frame} {meth : Method} {c : Code} {b L : Nat} {xs : Nat → Int32} {dC : Nat → ClassId} {dI : Nat → Nat → Nat} {cyI cyZ cyJ : ClassId} {tK tL tG : Nat} {ad : Nat → Nat} {h2 h1 a0 a1 a2 a3 b0 b1 h3 e0 e1 e2 e3 e4 e5 e6 o0 : Nat} {so : Nat → Int32} {fi : Nat → Int32} {el : Nat → Int32} {ab : Nat → Int64} {sz : Int32} {ot : Nat → Int32} {ob : Nat → Int64} {oc : Int32} {th : Int32} {ro : Nat → Int32} {rf : Nat → Int32} {re : Nat → Int32} {av : Nat → Int32} {un : Nat → Int32} {ty : Int32} {kp : Nat → Int32} {bt : Nat → Int64} {rk : Int32} {ow : Nat → Int64} {H : Heap} {locs : List Loc} {cells slots i : Nat} {Q : State → Prop} {ls : Array Slot} (hC : lw_K p l s m meth c b L xs dC dI cyI cyZ cyJ tK tL tG ad) (hJ : lw_J s dC dI cyI cyZ cyJ h2 h1 a0 a1 a2 a3 b0 b1 h3 e0 e1 e2 e3 e4 e5 e6 o0 so fi el ab sz ot ob oc th ro rf re av un ty kp bt rk ow H locs) (hl : lv_has ls 8 (lw_l b h2 h3 o0 i)) (hi : i + 5 ≤ L) (hcc : cells + 1 ≤ 600128) (hss : slots + 8 ≤ 7301098) (K : ∀ (ls : Array Slot) (so : Nat → Int32) (fi : Nat → Int32) (el : Nat → Int32) (ab : Nat → Int64) (sz : Int32) (ot : Nat → Int32) (ob : Nat → Int64) (oc : Int32) (th : Int32) (ro : Nat → Int32) (rf : Nat → Int32) (re : Nat → Int32) (av : Nat → Int32) (un : Nat → Int32) (ty : Int32) (kp : Nat → Int32) (bt : Nat → Int64) (rk : Int32) (ow : Nat → Int64) (H : Heap) (locs : List Loc), lw_J s dC dI cyI cyZ cyJ h2 h1 a0 a1 a2 a3 b0 b1 h3 e0 e1 e2 e3 e4 e5 e6 o0 so fi el ab sz ot ob oc th ro rf re av un ty kp bt rk ow H locs → lv_has ls 8 (lw_l b h2 h3 o0 i) → W p l e room_1 s m #[Value.ref b] below meth c H locs (cells + 1) (slots + 8) Q (F0 m 933 ls [])) : W p l e room_1 s m #[Value.ref b] below meth c H locs cells slots Q (F0 m 792 ls []) := by
  obtain ⟨hx, hb, hr, hml, hown, hts, hX, hbl, hlocks, hL, hl0, hK, hG, hTH, hNc⟩ := hC
  obtain ⟨hP, hD, hS, hI⟩ := hJ
  have hbA : ¬ lw_A s b := Nat.not_le.mpr hbl
  have hA : ∀ q : Nat, s.heap.size ≤ q → lw_A s q := fun q h => h
  have hfit : cells + 0 ≤ room_1.cells ∧ slots + 0 ≤ room_1.slots := by constructor <;> (show _ ≤ (_ : Nat)) <;> (simp only [room_1]) <;> omega
  have hl : lv_has ls 8 [(0, .ref b), (1, .ref h2), (2, .ref h3), (3, .ref o0), (4, .int (nI i))] := hl
  refine lv_aload_n hx hb dL_law_792 rfl (lv_at hl 1 rfl) ?_
  refine lv_aload_n hx hb dL_law_793 rfl (lv_at hl 0 rfl) ?_
  refine lv_iload hx hb dL_law_794 (lv_at hl 4 rfl) ?_
  refine lv_iconst (v := (1 : Int32)) hx hb dL_law_796 (by decide) ?_
  refine lv_iadd hx hb dL_law_797 ?_
  refine va_sld hx hb hX hbl hbA hS (lw_in 1 hi hL (by decide)) dL_law_798 ?_
  refine lv_aload_n hx hb dL_law_799 rfl (lv_at hl 0 rfl) ?_
  refine lv_iload hx hb dL_law_800 (lv_at hl 4 rfl) ?_
  refine lv_iconst (v := (2 : Int32)) hx hb dL_law_802 (by decide) ?_
  refine lv_iadd hx hb dL_law_803 ?_
  refine va_sld hx hb hX hbl hbA hS (lw_in 2 hi hL (by decide)) dL_law_804 ?_
  refine lv_aload_n hx hb dL_law_805 rfl (lv_at hl 3 rfl) ?_
  have hpe := pe_unboxed hI (xs ((nI i) + (1 : Int32)).toNatClampNeg) (xs ((nI i) + (2 : Int32)).toNatClampNeg)
  have hc := c_L_unboxed l hl0 dC dI cyI cyZ cyJ tK tL tG ad h2 h1 a0 a1 a2 a3 b0 b1 o0 so fi el ab sz ot ob oc ow H.size (xs ((nI i) + (1 : Int32)).toNatClampNeg) (xs ((nI i) + (2 : Int32)).toNatClampNeg) hI.go
  unfold f_L_unboxed at hc
  generalize hkk : k_X2_unboxed so fi el ab sz ot ob oc (xs ((nI i) + (1 : Int32)).toNatClampNeg) (xs ((nI i) + (2 : Int32)).toNatClampNeg) = kk at hc hpe
  generalize hvv : f_X2_unboxed so fi el ab sz ot ob oc (xs ((nI i) + (1 : Int32)).toNatClampNeg) (xs ((nI i) + (2 : Int32)).toNatClampNeg) = vv at hc hpe
  have hPc := hP.sub (ws' := [(o0, .inl (cyJ, 1, .inr (.inl ow)))]) [16] rfl
  have hDc := hD.sub (ws' := [(o0, .inl (cyJ, 1, .inr (.inl ow)))]) [16] (by decide) rfl
  have hFc := va_free (wc := [(o0, .inl (cyJ, 1, .inr (.inl ow)))]) hD hS hA [16] rfl
  have hfit1 : cells + 1 ≤ room_1.cells ∧ slots + 8 ≤ room_1.slots := ⟨hcc, hss⟩
  refine mb_calli (vx_runSW (As := [.ref h2, .int (xs ((nI i) + (1 : Int32)).toNatClampNeg), .int (xs ((nI i) + (2 : Int32)).toNatClampNeg), .ref o0]) (rest := []) ⟨hx, hb, hml, hown, hts⟩ hc (vx_cwSW 4 hts gl_L_unboxed rfl rfl rfl (by decide +kernel) ⟨Nat.le_of_ble_eq_true rfl, Nat.le_of_ble_eq_true rfl⟩) (mb_preMT ((hTH.kept hS.2.1).narrow (fun _ h => h.elim)) hNc ((hG.kept hS.2.1).narrow (fun _ h => h.elim)) hK (hP.sub (ws' := [(h2, .inr (4, [.ref h1, .ref b0, .ref b1, .int oc])), (h1, .inr (3, [.ref a0, .ref a1, .ref a2, .ref a3, .int sz])), (a0, .inl (cyI, 40, .inl so)), (a1, .inl (cyZ, 40, .inl fi)), (a2, .inl (cyI, 40, .inl el)), (a3, .inl (cyJ, 40, .inr (.inl ab))), (b0, .inl (cyI, 60, .inl ot)), (b1, .inl (cyJ, 60, .inr (.inl ob)))]) [0, 1, 2, 3, 4, 5, 6, 7] rfl) hPc hDc) rfl rfl hl.1 rfl (lv_room (Nat.le_of_ble_eq_true rfl)) dL_law_806 hfit1) hS (fun q _ h => hFc q h) hFc (fun tq H locs htq hvmq hBq hk1 hS => ?_)
  obtain ⟨hP1, hK1, hD1⟩ := hBq
  rw [htq] at hP1
  generalize how : (if kk = 0 then vp_updL ow 0 vv else ow) = ow2 at hP1 hD1
  have hP1 : va_P (dC, dI) vwCl [(o0, .inl (cyJ, 1, .inr (.inl ow2)))] H := hP1
  obtain ⟨hP, hD⟩ := va_join (wr := [(h2, .inr (4, [.ref h1, .ref b0, .ref b1, .int oc])), (h1, .inr (3, [.ref a0, .ref a1, .ref a2, .ref a3, .int sz])), (a0, .inl (cyI, 40, .inl so)), (a1, .inl (cyZ, 40, .inl fi)), (a2, .inl (cyI, 40, .inl el)), (a3, .inl (cyJ, 40, .inr (.inl ab))), (b0, .inl (cyI, 60, .inl ot)), (b1, .inl (cyJ, 60, .inr (.inl ob))), (h3, .inr (5, [.int th, .int ty, .ref e0, .ref e1, .ref e2, .ref e3, .ref e4, .int rk, .ref e5, .ref e6])), (e0, .inl (cyI, 40, .inl ro)), (e1, .inl (cyZ, 40, .inl rf)), (e2, .inl (cyI, 40, .inl re)), (e3, .inl (cyI, 120, .inl av)), (e4, .inl (cyZ, 1600, .inl un)), (e5, .inl (cyI, 60, .inl kp)), (e6, .inl (cyJ, 60, .inr (.inl bt)))]) (w1 := [(o0, .inl (cyJ, 1, .inr (.inl ow2)))]) hP hD [16] [0, 1, 2, 3, 4, 5, 6, 7, 8, 9, 10, 11, 12, 13, 14, 15] rfl rfl (by decide) (by decide) hk1 hFc hP1 hD1
  have hP : va_P (dC, dI) vwCl [(h2, .inr (4, [.ref h1, .ref b0, .ref b1, .int oc])), (h1, .inr (3, [.ref a0, .ref a1, .ref a2, .ref a3, .int sz])), (a0, .inl (cyI, 40, .inl so)), (a1, .inl (cyZ, 40, .inl fi)), (a2, .inl (cyI, 40, .inl el)), (a3, .inl (cyJ, 40, .inr (.inl ab))), (b0, .inl (cyI, 60, .inl ot)), (b1, .inl (cyJ, 60, .inr (.inl ob))), (h3, .inr (5, [.int th, .int ty, .ref e0, .ref e1, .ref e2, .ref e3, .ref e4, .int rk, .ref e5, .ref e6])), (e0, .inl (cyI, 40, .inl ro)), (e1, .inl (cyZ, 40, .inl rf)), (e2, .inl (cyI, 40, .inl re)), (e3, .inl (cyI, 120, .inl av)), (e4, .inl (cyZ, 1600, .inl un)), (e5, .inl (cyI, 60, .inl kp)), (e6, .inl (cyJ, 60, .inr (.inl bt))), (o0, .inl (cyJ, 1, .inr (.inl ow2)))] H := hP
  have hD : va_D (lw_A s) [(h2, .inr (4, [.ref h1, .ref b0, .ref b1, .int oc])), (h1, .inr (3, [.ref a0, .ref a1, .ref a2, .ref a3, .int sz])), (a0, .inl (cyI, 40, .inl so)), (a1, .inl (cyZ, 40, .inl fi)), (a2, .inl (cyI, 40, .inl el)), (a3, .inl (cyJ, 40, .inr (.inl ab))), (b0, .inl (cyI, 60, .inl ot)), (b1, .inl (cyJ, 60, .inr (.inl ob))), (h3, .inr (5, [.int th, .int ty, .ref e0, .ref e1, .ref e2, .ref e3, .ref e4, .int rk, .ref e5, .ref e6])), (e0, .inl (cyI, 40, .inl ro)), (e1, .inl (cyZ, 40, .inl rf)), (e2, .inl (cyI, 40, .inl re)), (e3, .inl (cyI, 120, .inl av)), (e4, .inl (cyZ, 1600, .inl un)), (e5, .inl (cyI, 60, .inl kp)), (e6, .inl (cyJ, 60, .inr (.inl bt))), (o0, .inl (cyJ, 1, .inr (.inl ow2)))] := hD
  have hfit2 : (cells + 1) + 0 ≤ room_1.cells ∧ (slots + 8) + 0 ≤ room_1.slots := ⟨hcc, hss⟩
  refine lv_istore (lv' := [(5, .int kk), (0, .ref b), (1, .ref h2), (2, .ref h3), (3, .ref o0), (4, .int (nI i))]) hx hb dL_law_809 hl (by decide) rfl (fun ls hl => ?_)
  refine lv_aload_n hx hb dL_law_811 rfl (lv_at hl 3 rfl) ?_
  refine lv_aload_n hx hb dL_law_812 rfl (lv_at hl 1 rfl) ?_
  refine lv_iload hx hb dL_law_813 (lv_at hl 5 rfl) ?_
  refine lv_iconst (v := (1 : Int32)) hx hb dL_law_815 (by decide) ?_
  refine lv_iadd hx hb dL_law_816 ?_
  refine va_sld hx hb hX hbl hbA hS (lw_in 1 hi hL (by decide)) dL_law_817 ?_
  refine lv_aload_n hx hb dL_law_818 rfl (lv_at hl 1 rfl) ?_
  refine lv_iload hx hb dL_law_819 (lv_at hl 5 rfl) ?_
  refine lv_iconst (v := (2 : Int32)) hx hb dL_law_821 (by decide) ?_
  refine lv_iadd hx hb dL_law_822 ?_
  refine va_sld hx hb hX hbl hbA hS (lw_in 2 hi hL (by decide)) dL_law_823 ?_
  have hc := c_X3_unboxed l dC dI cyI cyZ cyJ h3 e0 e1 e2 e3 e4 e5 e6 th ro rf re av un ty kp bt rk H.size (xs ((nI i) + (1 : Int32)).toNatClampNeg) (xs ((nI i) + (2 : Int32)).toNatClampNeg) hI.gz3 hI.go3
  generalize hF3 : f_X3_unboxed th ro rf re av un ty kp bt rk (xs ((nI i) + (1 : Int32)).toNatClampNeg) (xs ((nI i) + (2 : Int32)).toNatClampNeg) = F3 at hc hpe
  obtain ⟨r3, th3⟩ := F3
  have hPc := hP.sub (ws' := [(h3, .inr (5, [.int th, .int ty, .ref e0, .ref e1, .ref e2, .ref e3, .ref e4, .int rk, .ref e5, .ref e6])), (e0, .inl (cyI, 40, .inl ro)), (e1, .inl (cyZ, 40, .inl rf)), (e2, .inl (cyI, 40, .inl re)), (e3, .inl (cyI, 120, .inl av)), (e4, .inl (cyZ, 1600, .inl un)), (e5, .inl (cyI, 60, .inl kp)), (e6, .inl (cyJ, 60, .inr (.inl bt)))]) [8, 9, 10, 11, 12, 13, 14, 15] rfl
  have hDc := hD.sub (ws' := [(h3, .inr (5, [.int th, .int ty, .ref e0, .ref e1, .ref e2, .ref e3, .ref e4, .int rk, .ref e5, .ref e6])), (e0, .inl (cyI, 40, .inl ro)), (e1, .inl (cyZ, 40, .inl rf)), (e2, .inl (cyI, 40, .inl re)), (e3, .inl (cyI, 120, .inl av)), (e4, .inl (cyZ, 1600, .inl un)), (e5, .inl (cyI, 60, .inl kp)), (e6, .inl (cyJ, 60, .inr (.inl bt)))]) [8, 9, 10, 11, 12, 13, 14, 15] (by decide) rfl
  have hFc := va_free (wc := [(h3, .inr (5, [.int th, .int ty, .ref e0, .ref e1, .ref e2, .ref e3, .ref e4, .int rk, .ref e5, .ref e6])), (e0, .inl (cyI, 40, .inl ro)), (e1, .inl (cyZ, 40, .inl rf)), (e2, .inl (cyI, 40, .inl re)), (e3, .inl (cyI, 120, .inl av)), (e4, .inl (cyZ, 1600, .inl un)), (e5, .inl (cyI, 60, .inl kp)), (e6, .inl (cyJ, 60, .inr (.inl bt)))]) hD hS hA [8, 9, 10, 11, 12, 13, 14, 15] rfl
  refine mb_calll (va_runV (As := [.int (xs ((nI i) + (1 : Int32)).toNatClampNeg), .int (xs ((nI i) + (2 : Int32)).toNatClampNeg)]) (rest := []) ⟨hx, hb, hml, hown, hts⟩ hc (cwV 2 hts gl_X3_unboxed rfl rfl rfl (by decide +kernel) ⟨Nat.le_of_ble_eq_true rfl, Nat.le_of_ble_eq_true rfl⟩) (mb_preM hK hPc hDc (ci := 5) (q0 := 0) rfl rfl) rfl rfl hl.1 rfl (lv_room (Nat.le_of_ble_eq_true rfl)) dL_law_824 hfit2) hS (fun q _ h => hFc q h) hFc (fun tq H locs htq hvmq hBq hk1 hS => ?_)
  obtain ⟨hP1, hK1, hD1⟩ := hBq
  rw [htq] at hP1
  have hP1 : va_P (dC, dI) vwCl [(h3, .inr (5, [.int th3, .int ty, .ref e0, .ref e1, .ref e2, .ref e3, .ref e4, .int rk, .ref e5, .ref e6])), (e0, .inl (cyI, 40, .inl ro)), (e1, .inl (cyZ, 40, .inl rf)), (e2, .inl (cyI, 40, .inl re)), (e3, .inl (cyI, 120, .inl av)), (e4, .inl (cyZ, 1600, .inl un)), (e5, .inl (cyI, 60, .inl kp)), (e6, .inl (cyJ, 60, .inr (.inl bt)))] H := hP1
  obtain ⟨hP, hD⟩ := va_join (wr := [(h2, .inr (4, [.ref h1, .ref b0, .ref b1, .int oc])), (h1, .inr (3, [.ref a0, .ref a1, .ref a2, .ref a3, .int sz])), (a0, .inl (cyI, 40, .inl so)), (a1, .inl (cyZ, 40, .inl fi)), (a2, .inl (cyI, 40, .inl el)), (a3, .inl (cyJ, 40, .inr (.inl ab))), (b0, .inl (cyI, 60, .inl ot)), (b1, .inl (cyJ, 60, .inr (.inl ob))), (o0, .inl (cyJ, 1, .inr (.inl ow2)))]) (w1 := [(h3, .inr (5, [.int th3, .int ty, .ref e0, .ref e1, .ref e2, .ref e3, .ref e4, .int rk, .ref e5, .ref e6])), (e0, .inl (cyI, 40, .inl ro)), (e1, .inl (cyZ, 40, .inl rf)), (e2, .inl (cyI, 40, .inl re)), (e3, .inl (cyI, 120, .inl av)), (e4, .inl (cyZ, 1600, .inl un)), (e5, .inl (cyI, 60, .inl kp)), (e6, .inl (cyJ, 60, .inr (.inl bt)))]) hP hD [8, 9, 10, 11, 12, 13, 14, 15] [0, 1, 2, 3, 4, 5, 6, 7, 16] rfl rfl (by decide) (by decide) hk1 hFc hP1 hD1
  have hP := hP.sub (ws' := [(h2, .inr (4, [.ref h1, .ref b0, .ref b1, .int oc])), (h1, .inr (3, [.ref a0, .ref a1, .ref a2, .ref a3, .int sz])), (a0, .inl (cyI, 40, .inl so)), (a1, .inl (cyZ, 40, .inl fi)), (a2, .inl (cyI, 40, .inl el)), (a3, .inl (cyJ, 40, .inr (.inl ab))), (b0, .inl (cyI, 60, .inl ot)), (b1, .inl (cyJ, 60, .inr (.inl ob))), (h3, .inr (5, [.int th3, .int ty, .ref e0, .ref e1, .ref e2, .ref e3, .ref e4, .int rk, .ref e5, .ref e6])), (e0, .inl (cyI, 40, .inl ro)), (e1, .inl (cyZ, 40, .inl rf)), (e2, .inl (cyI, 40, .inl re)), (e3, .inl (cyI, 120, .inl av)), (e4, .inl (cyZ, 1600, .inl un)), (e5, .inl (cyI, 60, .inl kp)), (e6, .inl (cyJ, 60, .inr (.inl bt))), (o0, .inl (cyJ, 1, .inr (.inl ow2)))]) [0, 1, 2, 3, 4, 5, 6, 7, 9, 10, 11, 12, 13, 14, 15, 16, 8] rfl
  have hD := hD.sub (ws' := [(h2, .inr (4, [.ref h1, .ref b0, .ref b1, .int oc])), (h1, .inr (3, [.ref a0, .ref a1, .ref a2, .ref a3, .int sz])), (a0, .inl (cyI, 40, .inl so)), (a1, .inl (cyZ, 40, .inl fi)), (a2, .inl (cyI, 40, .inl el)), (a3, .inl (cyJ, 40, .inr (.inl ab))), (b0, .inl (cyI, 60, .inl ot)), (b1, .inl (cyJ, 60, .inr (.inl ob))), (h3, .inr (5, [.int th3, .int ty, .ref e0, .ref e1, .ref e2, .ref e3, .ref e4, .int rk, .ref e5, .ref e6])), (e0, .inl (cyI, 40, .inl ro)), (e1, .inl (cyZ, 40, .inl rf)), (e2, .inl (cyI, 40, .inl re)), (e3, .inl (cyI, 120, .inl av)), (e4, .inl (cyZ, 1600, .inl un)), (e5, .inl (cyI, 60, .inl kp)), (e6, .inl (cyJ, 60, .inr (.inl bt))), (o0, .inl (cyJ, 1, .inr (.inl ow2)))]) [0, 1, 2, 3, 4, 5, 6, 7, 9, 10, 11, 12, 13, 14, 15, 16, 8] (by decide) rfl
  have hI : Inv (so, fi, el, ab, sz, ot, ob, oc) (th3, ro, rf, re, av, un, ty, kp, bt, rk) := hI
  refine lv_lstore (lv' := [(6, .long r3), (5, .int kk), (0, .ref b), (1, .ref h2), (2, .ref h3), (3, .ref o0), (4, .int (nI i))]) hx hb dL_law_827 hl (by decide) rfl (fun ls hl => ?_)
  refine lv_aload_n hx hb dL_law_829 rfl (lv_at hl 4 rfl) ?_
  refine mb_callSi (W.runV (As := []) (rest := []) ⟨hx, hb, hml, hown, hts⟩ (c_X3_thrown l dC dI cyI cyZ cyJ h3 e0 e1 e2 e3 e4 e5 e6 th3 ro rf re av un ty kp bt rk) (cwV 0 hts gl_X3_thrown rfl rfl rfl (by decide +kernel) ⟨Nat.le_of_ble_eq_true rfl, Nat.le_of_ble_eq_true rfl⟩) (mb_preV hK (hP.sub (ws' := [(h3, .inr (5, [.int th3, .int ty, .ref e0, .ref e1, .ref e2, .ref e3, .ref e4, .int rk, .ref e5, .ref e6])), (e0, .inl (cyI, 40, .inl ro)), (e1, .inl (cyZ, 40, .inl rf)), (e2, .inl (cyI, 40, .inl re)), (e3, .inl (cyI, 120, .inl av)), (e4, .inl (cyZ, 1600, .inl un)), (e5, .inl (cyI, 60, .inl kp)), (e6, .inl (cyJ, 60, .inr (.inl bt)))]) [8, 9, 10, 11, 12, 13, 14, 15] rfl) (ci := 5) (q0 := 0) rfl rfl) rfl rfl hl.1 rfl (lv_room (Nat.le_of_ble_eq_true rfl)) dL_law_830 hfit2) ?_
  refine lv_iload hx hb dL_law_833 (lv_at hl 1 rfl) ?_
  refine lv_icmp_eq (tgt := 840) hx hb dL_law_835 (by decide) (fun c_1 => ?_) (fun c_1 => absurd hpe.1 c_1)
  refine lv_iload hx hb dL_law_840 (lv_at hl 1 rfl) ?_
  refine lv_if_ne (tgt := 856) hx hb dL_law_842 (by decide) (fun c_2 => ?_) (fun c_2 => ?_)
  · refine lv_goto (tgt := 933) hx hb dL_law_856 (by decide) ?_
    exact W.widen (by omega) (by omega) (K _ _ _ _ _ _ _ _ _ _ _ _ _ _ _ _ _ _ _ _ _ _ ⟨hP, hD, hS, hI⟩ (lv_sub hl [2, 3, 4, 5, 6] rfl))
  · refine lv_aload_n hx hb dL_law_845 rfl (lv_at hl 5 rfl) ?_
    refine lv_iconst (v := (0 : Int32)) hx hb dL_law_846 (by decide) ?_
    refine va_lald hx hb hK hP 16 2 rfl rfl (show vp_in (0 : Int32) 1 from fun h => by revert h; decide) dL_law_847 ?_
    refine lv_lload hx hb dL_law_848 (lv_at hl 0 rfl) ?_
    refine mb_lc_eq (tgt := 856) hx hb dL_law_850 dL_law_851 (by decide) (fun c_3 => ?_) (fun c_3 => absurd (show ow2 (0 : Int32).toNatClampNeg = r3 by rw [← how, if_pos c_2]; exact (if_pos rfl : vp_updL ow 0 vv (0 : Int32).toNatClampNeg = vv).trans (hpe.2 c_2)) c_3)
    refine lv_goto (tgt := 933) hx hb dL_law_856 (by decide) ?_
    exact W.widen (by omega) (by omega) (K _ _ _ _ _ _ _ _ _ _ _ _ _ _ _ _ _ _ _ _ _ _ ⟨hP, hD, hS, hI⟩ (lv_sub hl [2, 3, 4, 5, 6] rfl))

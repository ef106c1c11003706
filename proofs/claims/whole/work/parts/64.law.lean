set_option maxHeartbeats 8000000 in
set_option maxRecDepth 100000 in
theorem lw_c3 {p : Program} {l : Launch} {e : Env} {s : State} {m : MethodId} {below : List Frame} {meth : Method} {c : Code} {b L : Nat} {xs : Nat → Int32} {dC : Nat → ClassId} {dI : Nat → Nat → Nat} {cyI cyZ cyJ : ClassId} {tK tL tG : Nat} {ad : Nat → Nat} {h2 h1 a0 a1 a2 a3 b0 b1 h3 e0 e1 e2 e3 e4 e5 e6 o0 : Nat} {so : Nat → Int32} {fi : Nat → Int32} {el : Nat → Int32} {ab : Nat → Int64} {sz : Int32} {ot : Nat → Int32} {ob : Nat → Int64} {oc : Int32} {th : Int32} {ro : Nat → Int32} {rf : Nat → Int32} {re : Nat → Int32} {av : Nat → Int32} {un : Nat → Int32} {ty : Int32} {kp : Nat → Int32} {bt : Nat → Int64} {rk : Int32} {ow : Nat → Int64} {H : Heap} {locs : List Loc} {cells slots i : Nat} {Q : State → Prop} {ls : Array Slot} (hC : lw_K p l s m meth c b L xs dC dI cyI cyZ cyJ tK tL tG ad) (hJ : lw_J s dC dI cyI cyZ cyJ h2 h1 a0 a1 a2 a3 b0 b1 h3 e0 e1 e2 e3 e4 e5 e6 o0 so fi el ab sz ot ob oc th ro rf re av un ty kp bt rk ow H locs) (hl : lv_has ls 8 (lw_l b h2 h3 o0 i)) (hi : i + 5 ≤ L) (hcc : cells + 1 ≤ 600128) (hss : slots + 8 ≤ 7301098) (K : ∀ (ls : Array Slot) (so : Nat → Int32) (fi : Nat → Int32) (el : Nat → Int32) (ab : Nat → Int64) (sz : Int32) (ot : Nat → Int32) (ob : Nat → Int64) (oc : Int32) (th : Int32) (ro : Nat → Int32) (rf : Nat → Int32) (re : Nat → Int32) (av : Nat → Int32) (un : Nat → Int32) (ty : Int32) (kp : Nat → Int32) (bt : Nat → Int64) (rk : Int32) (ow : Nat → Int64) (H : Heap) (locs : List Loc), lw_J s dC dI cyI cyZ cyJ h2 h1 a0 a1 a2 a3 b0 b1 h3 e0 e1 e2 e3 e4 e5 e6 o0 so fi el ab sz ot ob oc th ro rf re av un ty kp bt rk ow H locs → lv_has ls 8 (lw_l b h2 h3 o0 i) → W p l e room_1 s m #[Value.ref b] below meth c H locs (cells + 1) (slots + 8) Q (F0 m 933 ls [])) : W p l e room_1 s m #[Value.ref b] below meth c H locs cells slots Q (F0 m 251 ls []) := by
  obtain ⟨hx, hb, hr, hml, hown, hts, hX, hbl, hlocks, hL, hl0, hK, hG, hTH, hNc⟩ := hC
  obtain ⟨hP, hD, hS, hI⟩ := hJ
  have hbA : ¬ lw_A s b := Nat.not_le.mpr hbl
  have hA : ∀ q : Nat, s.heap.size ≤ q → lw_A s q := fun q h => h
  have hfit : cells + 0 ≤ room_1.cells ∧ slots + 0 ≤ room_1.slots := by constructor <;> (show _ ≤ (_ : Nat)) <;> (simp only [room_1]) <;> omega
  have hl : lv_has ls 8 [(0, .ref b), (1, .ref h2), (2, .ref h3), (3, .ref o0), (4, .int (nI i))] := hl
  refine lv_aload_n hx hb dL_law_251 rfl (lv_at hl 1 rfl) ?_
  refine lv_aload_n hx hb dL_law_252 rfl (lv_at hl 0 rfl) ?_
  refine lv_iload hx hb dL_law_253 (lv_at hl 4 rfl) ?_
  refine lv_iconst (v := (1 : Int32)) hx hb dL_law_255 (by decide) ?_
  refine lv_iadd hx hb dL_law_256 ?_
  refine va_sld hx hb hX hbl hbA hS (lw_in 1 hi hL (by decide)) dL_law_257 ?_
  refine lv_aload_n hx hb dL_law_258 rfl (lv_at hl 0 rfl) ?_
  refine lv_iload hx hb dL_law_259 (lv_at hl 4 rfl) ?_
  refine lv_iconst (v := (2 : Int32)) hx hb dL_law_261 (by decide) ?_
  refine lv_iadd hx hb dL_law_262 ?_
  refine va_sld hx hb hX hbl hbA hS (lw_in 2 hi hL (by decide)) dL_law_263 ?_
  refine mb_callSi (W.runV (As := [.int (xs ((nI i) + (1 : Int32)).toNatClampNeg), .int (xs ((nI i) + (2 : Int32)).toNatClampNeg)]) (rest := []) ⟨hx, hb, hml, hown, hts⟩ (c_X2_type l dC dI cyI cyZ cyJ tK tL tG ad h2 h1 a0 a1 a2 a3 b0 b1 so fi el ab sz ot ob oc (xs ((nI i) + (1 : Int32)).toNatClampNeg) (xs ((nI i) + (2 : Int32)).toNatClampNeg) hI.gz hI.gb) (cwV 2 hts gl_X2_type rfl rfl rfl (by decide +kernel) ⟨Nat.le_of_ble_eq_true rfl, Nat.le_of_ble_eq_true rfl⟩) (mb_preGV ((hG.kept hS.2.1).narrow (fun _ h => h.elim)) hK (hP.sub (ws' := [(h2, .inr (4, [.ref h1, .ref b0, .ref b1, .int oc])), (h1, .inr (3, [.ref a0, .ref a1, .ref a2, .ref a3, .int sz])), (a0, .inl (cyI, 40, .inl so)), (a1, .inl (cyZ, 40, .inl fi)), (a2, .inl (cyI, 40, .inl el)), (a3, .inl (cyJ, 40, .inr (.inl ab))), (b0, .inl (cyI, 60, .inl ot)), (b1, .inl (cyJ, 60, .inr (.inl ob)))]) [0, 1, 2, 3, 4, 5, 6, 7] rfl) (ci := 4) (q0 := 0) rfl rfl) rfl rfl hl.1 rfl (lv_room (Nat.le_of_ble_eq_true rfl)) dL_law_264 hfit) ?_
  refine lv_aload_n hx hb dL_law_267 rfl (lv_at hl 2 rfl) ?_
  refine lv_aload_n hx hb dL_law_268 rfl (lv_at hl 0 rfl) ?_
  refine lv_iload hx hb dL_law_269 (lv_at hl 4 rfl) ?_
  refine lv_iconst (v := (1 : Int32)) hx hb dL_law_271 (by decide) ?_
  refine lv_iadd hx hb dL_law_272 ?_
  refine va_sld hx hb hX hbl hbA hS (lw_in 1 hi hL (by decide)) dL_law_273 ?_
  refine lv_aload_n hx hb dL_law_274 rfl (lv_at hl 0 rfl) ?_
  refine lv_iload hx hb dL_law_275 (lv_at hl 4 rfl) ?_
  refine lv_iconst (v := (2 : Int32)) hx hb dL_law_277 (by decide) ?_
  refine lv_iadd hx hb dL_law_278 ?_
  refine va_sld hx hb hX hbl hbA hS (lw_in 2 hi hL (by decide)) dL_law_279 ?_
  have hpe := pe_type hI (xs ((nI i) + (1 : Int32)).toNatClampNeg) (xs ((nI i) + (2 : Int32)).toNatClampNeg)
  have hc := c_X3_type l dC dI cyI cyZ cyJ h3 e0 e1 e2 e3 e4 e5 e6 th ro rf re av un ty kp bt rk H.size (xs ((nI i) + (1 : Int32)).toNatClampNeg) (xs ((nI i) + (2 : Int32)).toNatClampNeg) hI.gz3
  generalize hF3 : f_X3_type th ro rf re av un ty kp bt rk (xs ((nI i) + (1 : Int32)).toNatClampNeg) (xs ((nI i) + (2 : Int32)).toNatClampNeg) = F3 at hc hpe
  obtain ⟨r3, th3⟩ := F3
  have hPc := hP.sub (ws' := [(h3, .inr (5, [.int th, .int ty, .ref e0, .ref e1, .ref e2, .ref e3, .ref e4, .int rk, .ref e5, .ref e6])), (e0, .inl (cyI, 40, .inl ro)), (e1, .inl (cyZ, 40, .inl rf)), (e2, .inl (cyI, 40, .inl re)), (e3, .inl (cyI, 120, .inl av)), (e4, .inl (cyZ, 1600, .inl un)), (e5, .inl (cyI, 60, .inl kp)), (e6, .inl (cyJ, 60, .inr (.inl bt)))]) [8, 9, 10, 11, 12, 13, 14, 15] rfl
  have hDc := hD.sub (ws' := [(h3, .inr (5, [.int th, .int ty, .ref e0, .ref e1, .ref e2, .ref e3, .ref e4, .int rk, .ref e5, .ref e6])), (e0, .inl (cyI, 40, .inl ro)), (e1, .inl (cyZ, 40, .inl rf)), (e2, .inl (cyI, 40, .inl re)), (e3, .inl (cyI, 120, .inl av)), (e4, .inl (cyZ, 1600, .inl un)), (e5, .inl (cyI, 60, .inl kp)), (e6, .inl (cyJ, 60, .inr (.inl bt)))]) [8, 9, 10, 11, 12, 13, 14, 15] (by decide) rfl
  have hFc := va_free (wc := [(h3, .inr (5, [.int th, .int ty, .ref e0, .ref e1, .ref e2, .ref e3, .ref e4, .int rk, .ref e5, .ref e6])), (e0, .inl (cyI, 40, .inl ro)), (e1, .inl (cyZ, 40, .inl rf)), (e2, .inl (cyI, 40, .inl re)), (e3, .inl (cyI, 120, .inl av)), (e4, .inl (cyZ, 1600, .inl un)), (e5, .inl (cyI, 60, .inl kp)), (e6, .inl (cyJ, 60, .inr (.inl bt)))]) hD hS hA [8, 9, 10, 11, 12, 13, 14, 15] rfl
  refine mb_calli (va_runV (As := [.int (xs ((nI i) + (1 : Int32)).toNatClampNeg), .int (xs ((nI i) + (2 : Int32)).toNatClampNeg)]) (rest := [.int (f_X2_type so fi el ab sz ot ob oc (xs ((nI i) + (1 : Int32)).toNatClampNeg) (xs ((nI i) + (2 : Int32)).toNatClampNeg))]) ⟨hx, hb, hml, hown, hts⟩ hc (cwV 2 hts gl_X3_type rfl rfl rfl (by decide +kernel) ⟨Nat.le_of_ble_eq_true rfl, Nat.le_of_ble_eq_true rfl⟩) (mb_preM hK hPc hDc (ci := 5) (q0 := 0) rfl rfl) rfl rfl hl.1 rfl (lv_room (Nat.le_of_ble_eq_true rfl)) dL_law_280 hfit) hS (fun q _ h => hFc q h) hFc (fun tq H locs htq hvmq hBq hk1 hS => ?_)
  obtain ⟨hP1, hK1, hD1⟩ := hBq
  rw [htq] at hP1
  have hP1 : va_P (dC, dI) vwCl [(h3, .inr (5, [.int th3, .int ty, .ref e0, .ref e1, .ref e2, .ref e3, .ref e4, .int rk, .ref e5, .ref e6])), (e0, .inl (cyI, 40, .inl ro)), (e1, .inl (cyZ, 40, .inl rf)), (e2, .inl (cyI, 40, .inl re)), (e3, .inl (cyI, 120, .inl av)), (e4, .inl (cyZ, 1600, .inl un)), (e5, .inl (cyI, 60, .inl kp)), (e6, .inl (cyJ, 60, .inr (.inl bt)))] H := hP1
  obtain ⟨hP, hD⟩ := va_join (wr := [(h2, .inr (4, [.ref h1, .ref b0, .ref b1, .int oc])), (h1, .inr (3, [.ref a0, .ref a1, .ref a2, .ref a3, .int sz])), (a0, .inl (cyI, 40, .inl so)), (a1, .inl (cyZ, 40, .inl fi)), (a2, .inl (cyI, 40, .inl el)), (a3, .inl (cyJ, 40, .inr (.inl ab))), (b0, .inl (cyI, 60, .inl ot)), (b1, .inl (cyJ, 60, .inr (.inl ob))), (o0, .inl (cyJ, 1, .inr (.inl ow)))]) (w1 := [(h3, .inr (5, [.int th3, .int ty, .ref e0, .ref e1, .ref e2, .ref e3, .ref e4, .int rk, .ref e5, .ref e6])), (e0, .inl (cyI, 40, .inl ro)), (e1, .inl (cyZ, 40, .inl rf)), (e2, .inl (cyI, 40, .inl re)), (e3, .inl (cyI, 120, .inl av)), (e4, .inl (cyZ, 1600, .inl un)), (e5, .inl (cyI, 60, .inl kp)), (e6, .inl (cyJ, 60, .inr (.inl bt)))]) hP hD [8, 9, 10, 11, 12, 13, 14, 15] [0, 1, 2, 3, 4, 5, 6, 7, 16] rfl rfl (by decide) (by decide) hk1 hFc hP1 hD1
  have hP := hP.sub (ws' := [(h2, .inr (4, [.ref h1, .ref b0, .ref b1, .int oc])), (h1, .inr (3, [.ref a0, .ref a1, .ref a2, .ref a3, .int sz])), (a0, .inl (cyI, 40, .inl so)), (a1, .inl (cyZ, 40, .inl fi)), (a2, .inl (cyI, 40, .inl el)), (a3, .inl (cyJ, 40, .inr (.inl ab))), (b0, .inl (cyI, 60, .inl ot)), (b1, .inl (cyJ, 60, .inr (.inl ob))), (h3, .inr (5, [.int th3, .int ty, .ref e0, .ref e1, .ref e2, .ref e3, .ref e4, .int rk, .ref e5, .ref e6])), (e0, .inl (cyI, 40, .inl ro)), (e1, .inl (cyZ, 40, .inl rf)), (e2, .inl (cyI, 40, .inl re)), (e3, .inl (cyI, 120, .inl av)), (e4, .inl (cyZ, 1600, .inl un)), (e5, .inl (cyI, 60, .inl kp)), (e6, .inl (cyJ, 60, .inr (.inl bt))), (o0, .inl (cyJ, 1, .inr (.inl ow)))]) [0, 1, 2, 3, 4, 5, 6, 7, 9, 10, 11, 12, 13, 14, 15, 16, 8] rfl
  have hD := hD.sub (ws' := [(h2, .inr (4, [.ref h1, .ref b0, .ref b1, .int oc])), (h1, .inr (3, [.ref a0, .ref a1, .ref a2, .ref a3, .int sz])), (a0, .inl (cyI, 40, .inl so)), (a1, .inl (cyZ, 40, .inl fi)), (a2, .inl (cyI, 40, .inl el)), (a3, .inl (cyJ, 40, .inr (.inl ab))), (b0, .inl (cyI, 60, .inl ot)), (b1, .inl (cyJ, 60, .inr (.inl ob))), (h3, .inr (5, [.int th3, .int ty, .ref e0, .ref e1, .ref e2, .ref e3, .ref e4, .int rk, .ref e5, .ref e6])), (e0, .inl (cyI, 40, .inl ro)), (e1, .inl (cyZ, 40, .inl rf)), (e2, .inl (cyI, 40, .inl re)), (e3, .inl (cyI, 120, .inl av)), (e4, .inl (cyZ, 1600, .inl un)), (e5, .inl (cyI, 60, .inl kp)), (e6, .inl (cyJ, 60, .inr (.inl bt))), (o0, .inl (cyJ, 1, .inr (.inl ow)))]) [0, 1, 2, 3, 4, 5, 6, 7, 9, 10, 11, 12, 13, 14, 15, 16, 8] (by decide) rfl
  have hI : Inv (so, fi, el, ab, sz, ot, ob, oc) (th3, ro, rf, re, av, un, ty, kp, bt, rk) := hI
  refine lv_icmp_eq (tgt := 933) hx hb dL_law_283 (by decide) (fun c_1 => ?_) (fun c_1 => absurd hpe c_1)
  exact W.widen (by omega) (by omega) (K _ _ _ _ _ _ _ _ _ _ _ _ _ _ _ _ _ _ _ _ _ _ ⟨hP, hD, hS, hI⟩ hl)
set_option maxHeartbeats 8000000 in
set_option maxRecDepth 100000 in
theorem lw_c4 {p : Program} {l : Launch} {e : Env} {s : State} {m : MethodId} {below : List Frame} {meth : Method} {c : Code} {b L : Nat} {xs : Nat → Int32} {dC : Nat → ClassId} {dI : Nat → Nat → Nat} {cyI cyZ cyJ : ClassId} {tK tL tG : Nat} {ad : Nat → Nat} {h2 h1 a0 a1 a2 a3 b0 b1 h3 e0 e1 e2 e3 e4 e5 e6 o0 : Nat} {so : Nat → Int32} {fi : Nat → Int32} {el : Nat → Int32} {ab : Nat → Int64} {sz : Int32} {ot : Nat → Int32} {ob : Nat → Int64} {oc : Int32} {th : Int32} {ro : Nat → Int32} {rf : Nat → Int32} {re : Nat → Int32} {av : Nat → Int32} {un : Nat → Int32} {ty : Int32} {kp : Nat → Int32} {bt : Nat → Int64} {rk : Int32} {ow : Nat → Int64} {H : Heap} {locs : List Loc} {cells slots i : Nat} {Q : State → Prop} {ls : Array Slot} (hC : lw_K p l s m meth c b L xs dC dI cyI cyZ cyJ tK tL tG ad) (hJ : lw_J s dC dI cyI cyZ cyJ h2 h1 a0 a1 a2 a3 b0 b1 h3 e0 e1 e2 e3 e4 e5 e6 o0 so fi el ab sz ot ob oc th ro rf re av un ty kp bt rk ow H locs) (hl : lv_has ls 8 (lw_l b h2 h3 o0 i)) (hi : i + 5 ≤ L) (hcc : cells + 1 ≤ 600128) (hss : slots + 8 ≤ 7301098) (K : ∀ (ls : Array Slot) (so : Nat → Int32) (fi : Nat → Int32) (el : Nat → Int32) (ab : Nat → Int64) (sz : Int32) (ot : Nat → Int32) (ob : Nat → Int64) (oc : Int32) (th : Int32) (ro : Nat → Int32) (rf : Nat → Int32) (re : Nat → Int32) (av : Nat → Int32) (un : Nat → Int32) (ty : Int32) (kp : Nat → Int32) (bt : Nat → Int64) (rk : Int32) (ow : Nat → Int64) (H : Heap) (locs : List Loc), lw_J s dC dI cyI cyZ cyJ h2 h1 a0 a1 a2 a3 b0 b1 h3 e0 e1 e2 e3 e4 e5 e6 o0 so fi el ab sz ot ob oc th ro rf re av un ty kp bt rk ow H locs → lv_has ls 8 (lw_l b h2 h3 o0 i) → W p l e room_1 s m #[Value.ref b] below meth c H locs (cells + 1) (slots + 8) Q (F0 m 933 ls [])) : W p l e room_1 s m #[Value.ref b] below meth c H locs cells slots Q (F0 m 288 ls []) := by
  obtain ⟨hx, hb, hr, hml, hown, hts, hX, hbl, hlocks, hL, hl0, hK, hG, hTH, hNc⟩ := hC
  obtain ⟨hP, hD, hS, hI⟩ := hJ
  have hbA : ¬ lw_A s b := Nat.not_le.mpr hbl
  have hA : ∀ q : Nat, s.heap.size ≤ q → lw_A s q := fun q h => h
  have hfit : cells + 0 ≤ room_1.cells ∧ slots + 0 ≤ room_1.slots := by constructor <;> (show _ ≤ (_ : Nat)) <;> (simp only [room_1]) <;> omega
  have hl : lv_has ls 8 [(0, .ref b), (1, .ref h2), (2, .ref h3), (3, .ref o0), (4, .int (nI i))] := hl
  refine lv_aload_n hx hb dL_law_288 rfl (lv_at hl 1 rfl) ?_
  refine lv_aload_n hx hb dL_law_289 rfl (lv_at hl 0 rfl) ?_
  refine lv_iload hx hb dL_law_290 (lv_at hl 4 rfl) ?_
  refine lv_iconst (v := (1 : Int32)) hx hb dL_law_292 (by decide) ?_
  refine lv_iadd hx hb dL_law_293 ?_
  refine va_sld hx hb hX hbl hbA hS (lw_in 1 hi hL (by decide)) dL_law_294 ?_
  refine lv_aload_n hx hb dL_law_295 rfl (lv_at hl 0 rfl) ?_
  refine lv_iload hx hb dL_law_296 (lv_at hl 4 rfl) ?_
  refine lv_iconst (v := (2 : Int32)) hx hb dL_law_298 (by decide) ?_
  refine lv_iadd hx hb dL_law_299 ?_
  refine va_sld hx hb hX hbl hbA hS (lw_in 2 hi hL (by decide)) dL_law_300 ?_
  refine mb_callSi (W.runV (As := [.int (xs ((nI i) + (1 : Int32)).toNatClampNeg), .int (xs ((nI i) + (2 : Int32)).toNatClampNeg)]) (rest := []) ⟨hx, hb, hml, hown, hts⟩ (c_X2_under l dC dI cyI cyZ cyJ tK tL tG ad h2 h1 a0 a1 a2 a3 b0 b1 so fi el ab sz ot ob oc (xs ((nI i) + (1 : Int32)).toNatClampNeg) (xs ((nI i) + (2 : Int32)).toNatClampNeg) hI.gz) (cwV 2 hts gl_X2_under rfl rfl rfl (by decide +kernel) ⟨Nat.le_of_ble_eq_true rfl, Nat.le_of_ble_eq_true rfl⟩) (mb_preGV ((hG.kept hS.2.1).narrow (fun _ h => h.elim)) hK (hP.sub (ws' := [(h2, .inr (4, [.ref h1, .ref b0, .ref b1, .int oc])), (h1, .inr (3, [.ref a0, .ref a1, .ref a2, .ref a3, .int sz])), (a0, .inl (cyI, 40, .inl so)), (a1, .inl (cyZ, 40, .inl fi)), (a2, .inl (cyI, 40, .inl el)), (a3, .inl (cyJ, 40, .inr (.inl ab))), (b0, .inl (cyI, 60, .inl ot)), (b1, .inl (cyJ, 60, .inr (.inl ob)))]) [0, 1, 2, 3, 4, 5, 6, 7] rfl) (ci := 4) (q0 := 0) rfl rfl) rfl rfl hl.1 rfl (lv_room (Nat.le_of_ble_eq_true rfl)) dL_law_301 hfit) ?_
  refine lv_aload_n hx hb dL_law_304 rfl (lv_at hl 2 rfl) ?_
  refine lv_aload_n hx hb dL_law_305 rfl (lv_at hl 0 rfl) ?_
  refine lv_iload hx hb dL_law_306 (lv_at hl 4 rfl) ?_
  refine lv_iconst (v := (1 : Int32)) hx hb dL_law_308 (by decide) ?_
  refine lv_iadd hx hb dL_law_309 ?_
  refine va_sld hx hb hX hbl hbA hS (lw_in 1 hi hL (by decide)) dL_law_310 ?_
  refine lv_aload_n hx hb dL_law_311 rfl (lv_at hl 0 rfl) ?_
  refine lv_iload hx hb dL_law_312 (lv_at hl 4 rfl) ?_
  refine lv_iconst (v := (2 : Int32)) hx hb dL_law_314 (by decide) ?_
  refine lv_iadd hx hb dL_law_315 ?_
  refine va_sld hx hb hX hbl hbA hS (lw_in 2 hi hL (by decide)) dL_law_316 ?_
  have hpe := pe_under hI (xs ((nI i) + (1 : Int32)).toNatClampNeg) (xs ((nI i) + (2 : Int32)).toNatClampNeg)
  have hc := c_X3_under l dC dI cyI cyZ cyJ h3 e0 e1 e2 e3 e4 e5 e6 th ro rf re av un ty kp bt rk H.size (xs ((nI i) + (1 : Int32)).toNatClampNeg) (xs ((nI i) + (2 : Int32)).toNatClampNeg) hI.gz3
  generalize hF3 : f_X3_under th ro rf re av un ty kp bt rk (xs ((nI i) + (1 : Int32)).toNatClampNeg) (xs ((nI i) + (2 : Int32)).toNatClampNeg) = F3 at hc hpe
  obtain ⟨r3, th3⟩ := F3
  have hPc := hP.sub (ws' := [(h3, .inr (5, [.int th, .int ty, .ref e0, .ref e1, .ref e2, .ref e3, .ref e4, .int rk, .ref e5, .ref e6])), (e0, .inl (cyI, 40, .inl ro)), (e1, .inl (cyZ, 40, .inl rf)), (e2, .inl (cyI, 40, .inl re)), (e3, .inl (cyI, 120, .inl av)), (e4, .inl (cyZ, 1600, .inl un)), (e5, .inl (cyI, 60, .inl kp)), (e6, .inl (cyJ, 60, .inr (.inl bt)))]) [8, 9, 10, 11, 12, 13, 14, 15] rfl
  have hDc := hD.sub (ws' := [(h3, .inr (5, [.int th, .int ty, .ref e0, .ref e1, .ref e2, .ref e3, .ref e4, .int rk, .ref e5, .ref e6])), (e0, .inl (cyI, 40, .inl ro)), (e1, .inl (cyZ, 40, .inl rf)), (e2, .inl (cyI, 40, .inl re)), (e3, .inl (cyI, 120, .inl av)), (e4, .inl (cyZ, 1600, .inl un)), (e5, .inl (cyI, 60, .inl kp)), (e6, .inl (cyJ, 60, .inr (.inl bt)))]) [8, 9, 10, 11, 12, 13, 14, 15] (by decide) rfl
  have hFc := va_free (wc := [(h3, .inr (5, [.int th, .int ty, .ref e0, .ref e1, .ref e2, .ref e3, .ref e4, .int rk, .ref e5, .ref e6])), (e0, .inl (cyI, 40, .inl ro)), (e1, .inl (cyZ, 40, .inl rf)), (e2, .inl (cyI, 40, .inl re)), (e3, .inl (cyI, 120, .inl av)), (e4, .inl (cyZ, 1600, .inl un)), (e5, .inl (cyI, 60, .inl kp)), (e6, .inl (cyJ, 60, .inr (.inl bt)))]) hD hS hA [8, 9, 10, 11, 12, 13, 14, 15] rfl
  refine mb_calli (va_runV (As := [.int (xs ((nI i) + (1 : Int32)).toNatClampNeg), .int (xs ((nI i) + (2 : Int32)).toNatClampNeg)]) (rest := [.int (f_X2_under so fi el ab sz ot ob oc (xs ((nI i) + (1 : Int32)).toNatClampNeg) (xs ((nI i) + (2 : Int32)).toNatClampNeg))]) ⟨hx, hb, hml, hown, hts⟩ hc (cwV 2 hts gl_X3_under rfl rfl rfl (by decide +kernel) ⟨Nat.le_of_ble_eq_true rfl, Nat.le_of_ble_eq_true rfl⟩) (mb_preM hK hPc hDc (ci := 5) (q0 := 0) rfl rfl) rfl rfl hl.1 rfl (lv_room (Nat.le_of_ble_eq_true rfl)) dL_law_317 hfit) hS (fun q _ h => hFc q h) hFc (fun tq H locs htq hvmq hBq hk1 hS => ?_)
  obtain ⟨hP1, hK1, hD1⟩ := hBq
  rw [htq] at hP1
  have hP1 : va_P (dC, dI) vwCl [(h3, .inr (5, [.int th3, .int ty, .ref e0, .ref e1, .ref e2, .ref e3, .ref e4, .int rk, .ref e5, .ref e6])), (e0, .inl (cyI, 40, .inl ro)), (e1, .inl (cyZ, 40, .inl rf)), (e2, .inl (cyI, 40, .inl re)), (e3, .inl (cyI, 120, .inl av)), (e4, .inl (cyZ, 1600, .inl un)), (e5, .inl (cyI, 60, .inl kp)), (e6, .inl (cyJ, 60, .inr (.inl bt)))] H := hP1
  obtain ⟨hP, hD⟩ := va_join (wr := [(h2, .inr (4, [.ref h1, .ref b0, .ref b1, .int oc])), (h1, .inr (3, [.ref a0, .ref a1, .ref a2, .ref a3, .int sz])), (a0, .inl (cyI, 40, .inl so)), (a1, .inl (cyZ, 40, .inl fi)), (a2, .inl (cyI, 40, .inl el)), (a3, .inl (cyJ, 40, .inr (.inl ab))), (b0, .inl (cyI, 60, .inl ot)), (b1, .inl (cyJ, 60, .inr (.inl ob))), (o0, .inl (cyJ, 1, .inr (.inl ow)))]) (w1 := [(h3, .inr (5, [.int th3, .int ty, .ref e0, .ref e1, .ref e2, .ref e3, .ref e4, .int rk, .ref e5, .ref e6])), (e0, .inl (cyI, 40, .inl ro)), (e1, .inl (cyZ, 40, .inl rf)), (e2, .inl (cyI, 40, .inl re)), (e3, .inl (cyI, 120, .inl av)), (e4, .inl (cyZ, 1600, .inl un)), (e5, .inl (cyI, 60, .inl kp)), (e6, .inl (cyJ, 60, .inr (.inl bt)))]) hP hD [8, 9, 10, 11, 12, 13, 14, 15] [0, 1, 2, 3, 4, 5, 6, 7, 16] rfl rfl (by decide) (by decide) hk1 hFc hP1 hD1
  have hP := hP.sub (ws' := [(h2, .inr (4, [.ref h1, .ref b0, .ref b1, .int oc])), (h1, .inr (3, [.ref a0, .ref a1, .ref a2, .ref a3, .int sz])), (a0, .inl (cyI, 40, .inl so)), (a1, .inl (cyZ, 40, .inl fi)), (a2, .inl (cyI, 40, .inl el)), (a3, .inl (cyJ, 40, .inr (.inl ab))), (b0, .inl (cyI, 60, .inl ot)), (b1, .inl (cyJ, 60, .inr (.inl ob))), (h3, .inr (5, [.int th3, .int ty, .ref e0, .ref e1, .ref e2, .ref e3, .ref e4, .int rk, .ref e5, .ref e6])), (e0, .inl (cyI, 40, .inl ro)), (e1, .inl (cyZ, 40, .inl rf)), (e2, .inl (cyI, 40, .inl re)), (e3, .inl (cyI, 120, .inl av)), (e4, .inl (cyZ, 1600, .inl un)), (e5, .inl (cyI, 60, .inl kp)), (e6, .inl (cyJ, 60, .inr (.inl bt))), (o0, .inl (cyJ, 1, .inr (.inl ow)))]) [0, 1, 2, 3, 4, 5, 6, 7, 9, 10, 11, 12, 13, 14, 15, 16, 8] rfl
  have hD := hD.sub (ws' := [(h2, .inr (4, [.ref h1, .ref b0, .ref b1, .int oc])), (h1, .inr (3, [.ref a0, .ref a1, .ref a2, .ref a3, .int sz])), (a0, .inl (cyI, 40, .inl so)), (a1, .inl (cyZ, 40, .inl fi)), (a2, .inl (cyI, 40, .inl el)), (a3, .inl (cyJ, 40, .inr (.inl ab))), (b0, .inl (cyI, 60, .inl ot)), (b1, .inl (cyJ, 60, .inr (.inl ob))), (h3, .inr (5, [.int th3, .int ty, .ref e0, .ref e1, .ref e2, .ref e3, .ref e4, .int rk, .ref e5, .ref e6])), (e0, .inl (cyI, 40, .inl ro)), (e1, .inl (cyZ, 40, .inl rf)), (e2, .inl (cyI, 40, .inl re)), (e3, .inl (cyI, 120, .inl av)), (e4, .inl (cyZ, 1600, .inl un)), (e5, .inl (cyI, 60, .inl kp)), (e6, .inl (cyJ, 60, .inr (.inl bt))), (o0, .inl (cyJ, 1, .inr (.inl ow)))]) [0, 1, 2, 3, 4, 5, 6, 7, 9, 10, 11, 12, 13, 14, 15, 16, 8] (by decide) rfl
  have hI : Inv (so, fi, el, ab, sz, ot, ob, oc) (th3, ro, rf, re, av, un, ty, kp, bt, rk) := hI
  refine lv_icmp_eq (tgt := 933) hx hb dL_law_320 (by decide) (fun c_1 => ?_) (fun c_1 => absurd hpe c_1)
  exact W.widen (by omega) (by omega) (K _ _ _ _ _ _ _ _ _ _ _ _ _ _ _ _ _ _ _ _ _ _ ⟨hP, hD, hS, hI⟩ hl)
set_option maxHeartbeats 8000000 in
set_option maxRecDepth 100000 in
theorem lw_c5 {p : Program} {l : Launch} {e : Env} {s : State} {m : MethodId} {below : List Frame} {meth : Method} {c : Code} {b L : Nat} {xs : Nat → Int32} {dC : Nat → ClassId} {dI : Nat → Nat → Nat} {cyI cyZ cyJ : ClassId} {tK tL tG : Nat} {ad : Nat → Nat} {h2 h1 a0 a1 a2 a3 b0 b1 h3 e0 e1 e2 e3 e4 e5 e6 o0 : Nat} {so : Nat → Int32} {fi : Nat → Int32} {el : Nat → Int32} {ab : Nat → Int64} {sz : Int32} {ot : Nat → Int32} {ob : Nat → Int64} {oc : Int32} {th : Int32} {ro : Nat → Int32} {rf : Nat → Int32} {re : Nat → Int32} {av : Nat → Int32} {un : Nat → Int32} {ty : Int32} {kp : Nat → Int32} {bt : Nat → Int64} {rk : Int32} {ow : Nat → Int64} {H : Heap} {locs : List Loc} {cells slots i : Nat} {Q : State → Prop} {ls : Array Slot} (hC : lw_K p l s m meth c b L xs dC dI cyI cyZ cyJ tK tL tG ad) (hJ : lw_J s dC dI cyI cyZ cyJ h2 h1 a0 a1 a2 a3 b0 b1 h3 e0 e1 e2 e3 e4 e5 e6 o0 so fi el ab sz ot ob oc th ro rf re av un ty kp bt rk ow H locs) (hl : lv_has ls 8 (lw_l b h2 h3 o0 i)) (hi : i + 5 ≤ L) (hcc : cells + 1 ≤ 600128) (hss : slots + 8 ≤ 7301098) (K : ∀ (ls : Array Slot) (so : Nat → Int32) (fi : Nat → Int32) (el : Nat → Int32) (ab : Nat → Int64) (sz : Int32) (ot : Nat → Int32) (ob : Nat → Int64) (oc : Int32) (th : Int32) (ro : Nat → Int32) (rf : Nat → Int32) (re : Nat → Int32) (av : Nat → Int32) (un : Nat → Int32) (ty : Int32) (kp : Nat → Int32) (bt : Nat → Int64) (rk : Int32) (ow : Nat → Int64) (H : Heap) (locs : List Loc), lw_J s dC dI cyI cyZ cyJ h2 h1 a0 a1 a2 a3 b0 b1 h3 e0 e1 e2 e3 e4 e5 e6 o0 so fi el ab sz ot ob oc th ro rf re av un ty kp bt rk ow H locs → lv_has ls 8 (lw_l b h2 h3 o0 i) → W p l e room_1 s m #[Value.ref b] below meth c H locs (cells + 1) (slots + 8) Q (F0 m 933 ls [])) : W p l e room_1 s m #[Value.ref b] below meth c H locs cells slots Q (F0 m 325 ls []) := by
  obtain ⟨hx, hb, hr, hml, hown, hts, hX, hbl, hlocks, hL, hl0, hK, hG, hTH, hNc⟩ := hC
  obtain ⟨hP, hD, hS, hI⟩ := hJ
  have hbA : ¬ lw_A s b := Nat.not_le.mpr hbl
  have hA : ∀ q : Nat, s.heap.size ≤ q → lw_A s q := fun q h => h
  have hfit : cells + 0 ≤ room_1.cells ∧ slots + 0 ≤ room_1.slots := by constructor <;> (show _ ≤ (_ : Nat)) <;> (simp only [room_1]) <;> omega
  have hl : lv_has ls 8 [(0, .ref b), (1, .ref h2), (2, .ref h3), (3, .ref o0), (4, .int (nI i))] := hl
  refine lv_aload_n hx hb dL_law_325 rfl (lv_at hl 1 rfl) ?_
  refine lv_aload_n hx hb dL_law_326 rfl (lv_at hl 0 rfl) ?_
  refine lv_iload hx hb dL_law_327 (lv_at hl 4 rfl) ?_
  refine lv_iconst (v := (1 : Int32)) hx hb dL_law_329 (by decide) ?_
  refine lv_iadd hx hb dL_law_330 ?_
  refine va_sld hx hb hX hbl hbA hS (lw_in 1 hi hL (by decide)) dL_law_331 ?_
  refine lv_aload_n hx hb dL_law_332 rfl (lv_at hl 0 rfl) ?_
  refine lv_iload hx hb dL_law_333 (lv_at hl 4 rfl) ?_
  refine lv_iconst (v := (2 : Int32)) hx hb dL_law_335 (by decide) ?_
  refine lv_iadd hx hb dL_law_336 ?_
  refine va_sld hx hb hX hbl hbA hS (lw_in 2 hi hL (by decide)) dL_law_337 ?_
  refine lv_aload_n hx hb dL_law_338 rfl (lv_at hl 0 rfl) ?_
  refine lv_iload hx hb dL_law_339 (lv_at hl 4 rfl) ?_
  refine lv_iconst (v := (3 : Int32)) hx hb dL_law_341 (by decide) ?_
  refine lv_iadd hx hb dL_law_342 ?_
  refine va_sld hx hb hX hbl hbA hS (lw_in 3 hi hL (by decide)) dL_law_343 ?_
  refine mb_callSi (W.runV (As := [.int (xs ((nI i) + (1 : Int32)).toNatClampNeg), .int (xs ((nI i) + (2 : Int32)).toNatClampNeg), .int (xs ((nI i) + (3 : Int32)).toNatClampNeg)]) (rest := []) ⟨hx, hb, hml, hown, hts⟩ (c_X2_kind l dC dI cyI cyZ cyJ tK tL tG ad h2 h1 a0 a1 a2 a3 b0 b1 so fi el ab sz ot ob oc (xs ((nI i) + (1 : Int32)).toNatClampNeg) (xs ((nI i) + (2 : Int32)).toNatClampNeg) (xs ((nI i) + (3 : Int32)).toNatClampNeg) hI.gz hI.ge) (cwV 3 hts gl_X2_kind rfl rfl rfl (by decide +kernel) ⟨Nat.le_of_ble_eq_true rfl, Nat.le_of_ble_eq_true rfl⟩) (mb_preGV ((hG.kept hS.2.1).narrow (fun _ h => h.elim)) hK (hP.sub (ws' := [(h2, .inr (4, [.ref h1, .ref b0, .ref b1, .int oc])), (h1, .inr (3, [.ref a0, .ref a1, .ref a2, .ref a3, .int sz])), (a0, .inl (cyI, 40, .inl so)), (a1, .inl (cyZ, 40, .inl fi)), (a2, .inl (cyI, 40, .inl el)), (a3, .inl (cyJ, 40, .inr (.inl ab))), (b0, .inl (cyI, 60, .inl ot)), (b1, .inl (cyJ, 60, .inr (.inl ob)))]) [0, 1, 2, 3, 4, 5, 6, 7] rfl) (ci := 4) (q0 := 0) rfl rfl) rfl rfl hl.1 rfl (lv_room (Nat.le_of_ble_eq_true rfl)) dL_law_344 hfit) ?_
  refine lv_aload_n hx hb dL_law_347 rfl (lv_at hl 2 rfl) ?_
  refine lv_aload_n hx hb dL_law_348 rfl (lv_at hl 0 rfl) ?_
  refine lv_iload hx hb dL_law_349 (lv_at hl 4 rfl) ?_
  refine lv_iconst (v := (1 : Int32)) hx hb dL_law_351 (by decide) ?_
  refine lv_iadd hx hb dL_law_352 ?_
  refine va_sld hx hb hX hbl hbA hS (lw_in 1 hi hL (by decide)) dL_law_353 ?_
  refine lv_aload_n hx hb dL_law_354 rfl (lv_at hl 0 rfl) ?_
  refine lv_iload hx hb dL_law_355 (lv_at hl 4 rfl) ?_
  refine lv_iconst (v := (2 : Int32)) hx hb dL_law_357 (by decide) ?_
  refine lv_iadd hx hb dL_law_358 ?_
  refine va_sld hx hb hX hbl hbA hS (lw_in 2 hi hL (by decide)) dL_law_359 ?_
  refine lv_aload_n hx hb dL_law_360 rfl (lv_at hl 0 rfl) ?_
  refine lv_iload hx hb dL_law_361 (lv_at hl 4 rfl) ?_
  refine lv_iconst (v := (3 : Int32)) hx hb dL_law_363 (by decide) ?_
  refine lv_iadd hx hb dL_law_364 ?_
  refine va_sld hx hb hX hbl hbA hS (lw_in 3 hi hL (by decide)) dL_law_365 ?_
  have hpe := pe_kind hI (xs ((nI i) + (1 : Int32)).toNatClampNeg) (xs ((nI i) + (2 : Int32)).toNatClampNeg) (xs ((nI i) + (3 : Int32)).toNatClampNeg)
  have hc := c_X3_kind l dC dI cyI cyZ cyJ h3 e0 e1 e2 e3 e4 e5 e6 th ro rf re av un ty kp bt rk H.size (xs ((nI i) + (1 : Int32)).toNatClampNeg) (xs ((nI i) + (2 : Int32)).toNatClampNeg) (xs ((nI i) + (3 : Int32)).toNatClampNeg) hI.gz3 hI.ge3
  generalize hF3 : f_X3_kind th ro rf re av un ty kp bt rk (xs ((nI i) + (1 : Int32)).toNatClampNeg) (xs ((nI i) + (2 : Int32)).toNatClampNeg) (xs ((nI i) + (3 : Int32)).toNatClampNeg) = F3 at hc hpe
  obtain ⟨r3, th3⟩ := F3
  have hPc := hP.sub (ws' := [(h3, .inr (5, [.int th, .int ty, .ref e0, .ref e1, .ref e2, .ref e3, .ref e4, .int rk, .ref e5, .ref e6])), (e0, .inl (cyI, 40, .inl ro)), (e1, .inl (cyZ, 40, .inl rf)), (e2, .inl (cyI, 40, .inl re)), (e3, .inl (cyI, 120, .inl av)), (e4, .inl (cyZ, 1600, .inl un)), (e5, .inl (cyI, 60, .inl kp)), (e6, .inl (cyJ, 60, .inr (.inl bt)))]) [8, 9, 10, 11, 12, 13, 14, 15] rfl
  have hDc := hD.sub (ws' := [(h3, .inr (5, [.int th, .int ty, .ref e0, .ref e1, .ref e2, .ref e3, .ref e4, .int rk, .ref e5, .ref e6])), (e0, .inl (cyI, 40, .inl ro)), (e1, .inl (cyZ, 40, .inl rf)), (e2, .inl (cyI, 40, .inl re)), (e3, .inl (cyI, 120, .inl av)), (e4, .inl (cyZ, 1600, .inl un)), (e5, .inl (cyI, 60, .inl kp)), (e6, .inl (cyJ, 60, .inr (.inl bt)))]) [8, 9, 10, 11, 12, 13, 14, 15] (by decide) rfl
  have hFc := va_free (wc := [(h3, .inr (5, [.int th, .int ty, .ref e0, .ref e1, .ref e2, .ref e3, .ref e4, .int rk, .ref e5, .ref e6])), (e0, .inl (cyI, 40, .inl ro)), (e1, .inl (cyZ, 40, .inl rf)), (e2, .inl (cyI, 40, .inl re)), (e3, .inl (cyI, 120, .inl av)), (e4, .inl (cyZ, 1600, .inl un)), (e5, .inl (cyI, 60, .inl kp)), (e6, .inl (cyJ, 60, .inr (.inl bt)))]) hD hS hA [8, 9, 10, 11, 12, 13, 14, 15] rfl
  refine mb_calli (va_runV (As := [.int (xs ((nI i) + (1 : Int32)).toNatClampNeg), .int (xs ((nI i) + (2 : Int32)).toNatClampNeg), .int (xs ((nI i) + (3 : Int32)).toNatClampNeg)]) (rest := [.int (f_X2_kind so fi el ab sz ot ob oc (xs ((nI i) + (1 : Int32)).toNatClampNeg) (xs ((nI i) + (2 : Int32)).toNatClampNeg) (xs ((nI i) + (3 : Int32)).toNatClampNeg))]) ⟨hx, hb, hml, hown, hts⟩ hc (cwV 3 hts gl_X3_kind rfl rfl rfl (by decide +kernel) ⟨Nat.le_of_ble_eq_true rfl, Nat.le_of_ble_eq_true rfl⟩) (mb_preM hK hPc hDc (ci := 5) (q0 := 0) rfl rfl) rfl rfl hl.1 rfl (lv_room (Nat.le_of_ble_eq_true rfl)) dL_law_366 hfit) hS (fun q _ h => hFc q h) hFc (fun tq H locs htq hvmq hBq hk1 hS => ?_)
  obtain ⟨hP1, hK1, hD1⟩ := hBq
  rw [htq] at hP1
  have hP1 : va_P (dC, dI) vwCl [(h3, .inr (5, [.int th3, .int ty, .ref e0, .ref e1, .ref e2, .ref e3, .ref e4, .int rk, .ref e5, .ref e6])), (e0, .inl (cyI, 40, .inl ro)), (e1, .inl (cyZ, 40, .inl rf)), (e2, .inl (cyI, 40, .inl re)), (e3, .inl (cyI, 120, .inl av)), (e4, .inl (cyZ, 1600, .inl un)), (e5, .inl (cyI, 60, .inl kp)), (e6, .inl (cyJ, 60, .inr (.inl bt)))] H := hP1
  obtain ⟨hP, hD⟩ := va_join (wr := [(h2, .inr (4, [.ref h1, .ref b0, .ref b1, .int oc])), (h1, .inr (3, [.ref a0, .ref a1, .ref a2, .ref a3, .int sz])), (a0, .inl (cyI, 40, .inl so)), (a1, .inl (cyZ, 40, .inl fi)), (a2, .inl (cyI, 40, .inl el)), (a3, .inl (cyJ, 40, .inr (.inl ab))), (b0, .inl (cyI, 60, .inl ot)), (b1, .inl (cyJ, 60, .inr (.inl ob))), (o0, .inl (cyJ, 1, .inr (.inl ow)))]) (w1 := [(h3, .inr (5, [.int th3, .int ty, .ref e0, .ref e1, .ref e2, .ref e3, .ref e4, .int rk, .ref e5, .ref e6])), (e0, .inl (cyI, 40, .inl ro)), (e1, .inl (cyZ, 40, .inl rf)), (e2, .inl (cyI, 40, .inl re)), (e3, .inl (cyI, 120, .inl av)), (e4, .inl (cyZ, 1600, .inl un)), (e5, .inl (cyI, 60, .inl kp)), (e6, .inl (cyJ, 60, .inr (.inl bt)))]) hP hD [8, 9, 10, 11, 12, 13, 14, 15] [0, 1, 2, 3, 4, 5, 6, 7, 16] rfl rfl (by decide) (by decide) hk1 hFc hP1 hD1
  have hP := hP.sub (ws' := [(h2, .inr (4, [.ref h1, .ref b0, .ref b1, .int oc])), (h1, .inr (3, [.ref a0, .ref a1, .ref a2, .ref a3, .int sz])), (a0, .inl (cyI, 40, .inl so)), (a1, .inl (cyZ, 40, .inl fi)), (a2, .inl (cyI, 40, .inl el)), (a3, .inl (cyJ, 40, .inr (.inl ab))), (b0, .inl (cyI, 60, .inl ot)), (b1, .inl (cyJ, 60, .inr (.inl ob))), (h3, .inr (5, [.int th3, .int ty, .ref e0, .ref e1, .ref e2, .ref e3, .ref e4, .int rk, .ref e5, .ref e6])), (e0, .inl (cyI, 40, .inl ro)), (e1, .inl (cyZ, 40, .inl rf)), (e2, .inl (cyI, 40, .inl re)), (e3, .inl (cyI, 120, .inl av)), (e4, .inl (cyZ, 1600, .inl un)), (e5, .inl (cyI, 60, .inl kp)), (e6, .inl (cyJ, 60, .inr (.inl bt))), (o0, .inl (cyJ, 1, .inr (.inl ow)))]) [0, 1, 2, 3, 4, 5, 6, 7, 9, 10, 11, 12, 13, 14, 15, 16, 8] rfl
  have hD := hD.sub (ws' := [(h2, .inr (4, [.ref h1, .ref b0, .ref b1, .int oc])), (h1, .inr (3, [.ref a0, .ref a1, .ref a2, .ref a3, .int sz])), (a0, .inl (cyI, 40, .inl so)), (a1, .inl (cyZ, 40, .inl fi)), (a2, .inl (cyI, 40, .inl el)), (a3, .inl (cyJ, 40, .inr (.inl ab))), (b0, .inl (cyI, 60, .inl ot)), (b1, .inl (cyJ, 60, .inr (.inl ob))), (h3, .inr (5, [.int th3, .int ty, .ref e0, .ref e1, .ref e2, .ref e3, .ref e4, .int rk, .ref e5, .ref e6])), (e0, .inl (cyI, 40, .inl ro)), (e1, .inl (cyZ, 40, .inl rf)), (e2, .inl (cyI, 40, .inl re)), (e3, .inl (cyI, 120, .inl av)), (e4, .inl (cyZ, 1600, .inl un)), (e5, .inl (cyI, 60, .inl kp)), (e6, .inl (cyJ, 60, .inr (.inl bt))), (o0, .inl (cyJ, 1, .inr (.inl ow)))]) [0, 1, 2, 3, 4, 5, 6, 7, 9, 10, 11, 12, 13, 14, 15, 16, 8] (by decide) rfl
  have hI : Inv (so, fi, el, ab, sz, ot, ob, oc) (th3, ro, rf, re, av, un, ty, kp, bt, rk) := hI
  refine lv_icmp_eq (tgt := 933) hx hb dL_law_369 (by decide) (fun c_1 => ?_) (fun c_1 => absurd hpe c_1)
  exact W.widen (by omega) (by omega) (K _ _ _ _ _ _ _ _ _ _ _ _ _ _ _ _ _ _ _ _ _ _ ⟨hP, hD, hS, hI⟩ hl)

set_option maxHeartbeats 8000000 in
set_option maxRecDepth 100000 in
theorem lw_c6 {p : Program} {l : Launch} {e : Env} {s : State} {m : MethodId} {below : List Frame} {meth : Method} {c : Code} {b L : Nat} {xs : Nat → Int32} {dC : Nat → ClassId} {dI : Nat → Nat → Nat} {cyI cyZ cyJ : ClassId} {tK tL tG : Nat} {ad : Nat → Nat} {h2 h1 a0 a1 a2 a3 b0 b1 h3 e0 e1 e2 e3 e4 e5 e6 o0 : Nat} {so : Nat → Int32} {fi : Nat → Int32} {el : Nat → Int32} {ab : Nat → Int64} {sz : Int32} {ot : Nat → Int32} {ob : Nat → Int64} {oc : Int32} {th : Int32} {ro : Nat → Int32} {rf : Nat → Int32} {re : Nat → Int32} {av : Nat → Int32} {un : Nat → Int32} {ty : Int32} {kp : Nat → Int32} {bt : Nat → Int64} {rk : Int32} {ow : Nat → Int64} {H : Heap} {locs : List Loc} {cells slots i : Nat} {Q : State → Prop} {ls : Array Slot} (hC : lw_K p l s m meth c b L xs dC dI cyI cyZ cyJ tK tL tG ad) (hJ : lw_J s dC dI cyI cyZ cyJ h2 h1 a0 a1 a2 a3 b0 b1 h3 e0 e1 e2 e3 e4 e5 e6 o0 so fi el ab sz ot ob oc th ro rf re av un ty kp bt rk ow H locs) (hl : lv_has ls 8 (lw_l b h2 h3 o0 i)) (hi : i + 5 ≤ L) (hcc : cells + 1 ≤ 600128) (hss : slots + 8 ≤ 7301098) (K : ∀ (ls : Array Slot) (so : Nat → Int32) (fi : Nat → Int32) (el : Nat → Int32) (ab : Nat → Int64) (sz : Int32) (ot : Nat → Int32) (ob : Nat → Int64) (oc : Int32) (th : Int32) (ro : Nat → Int32) (rf : Nat → Int32) (re : Nat → Int32) (av : Nat → Int32) (un : Nat → Int32) (ty : Int32) (kp : Nat → Int32) (bt : Nat → Int64) (rk : Int32) (ow : Nat → Int64) (H : Heap) (locs : List Loc), lw_J s dC dI cyI cyZ cyJ h2 h1 a0 a1 a2 a3 b0 b1 h3 e0 e1 e2 e3 e4 e5 e6 o0 so fi el ab sz ot ob oc th ro rf re av un ty kp bt rk ow H locs → lv_has ls 8 (lw_l b h2 h3 o0 i) → W p l e room_1 s m #[Value.ref b] below meth c H locs (cells + 1) (slots + 8) Q (F0 m 933 ls [])) : W p l e room_1 s m #[Value.ref b] below meth c H locs cells slots Q (F0 m 374 ls []) := by
  obtain ⟨hx, hb, hr, hml, hown, hts, hX, hbl, hlocks, hL, hl0, hK, hG, hTH, hNc⟩ := hC
  obtain ⟨hP, hD, hS, hI⟩ := hJ
  have hbA : ¬ lw_A s b := Nat.not_le.mpr hbl
  have hA : ∀ q : Nat, s.heap.size ≤ q → lw_A s q := fun q h => h
  have hfit : cells + 0 ≤ room_1.cells ∧ slots + 0 ≤ room_1.slots := by constructor <;> (show _ ≤ (_ : Nat)) <;> (simp only [room_1]) <;> omega
  have hl : lv_has ls 8 [(0, .ref b), (1, .ref h2), (2, .ref h3), (3, .ref o0), (4, .int (nI i))] := hl
  refine lv_aload_n hx hb dL_law_374 rfl (lv_at hl 1 rfl) ?_
  refine lv_aload_n hx hb dL_law_375 rfl (lv_at hl 0 rfl) ?_
  refine lv_iload hx hb dL_law_376 (lv_at hl 4 rfl) ?_
  refine lv_iconst (v := (1 : Int32)) hx hb dL_law_378 (by decide) ?_
  refine lv_iadd hx hb dL_law_379 ?_
  refine va_sld hx hb hX hbl hbA hS (lw_in 1 hi hL (by decide)) dL_law_380 ?_
  refine lv_i2l hx hb dL_law_381 rfl ?_
  refine lv_bipush (v := (32 : Int32)) hx hb dL_law_382 (by decide) ?_
  refine lv_lshl hx hb dL_law_384 rfl ?_
  refine lv_aload_n hx hb dL_law_385 rfl (lv_at hl 0 rfl) ?_
  refine lv_iload hx hb dL_law_386 (lv_at hl 4 rfl) ?_
  refine lv_iconst (v := (2 : Int32)) hx hb dL_law_388 (by decide) ?_
  refine lv_iadd hx hb dL_law_389 ?_
  refine va_sld hx hb hX hbl hbA hS (lw_in 2 hi hL (by decide)) dL_law_390 ?_
  refine lv_i2l hx hb dL_law_391 rfl ?_
  refine lv_ldc2 (v := (4294967295 : Int64)) hx hb hown (hts _ ((gk_own (.constantLong RL 49 4294967295) (by decide +kernel)).1)) dL_law_392 ?_
  refine lv_land hx hb dL_law_395 ?_
  refine lv_lor hx hb dL_law_396 ?_
  refine lv_aload_n hx hb dL_law_397 rfl (lv_at hl 0 rfl) ?_
  refine lv_iload hx hb dL_law_398 (lv_at hl 4 rfl) ?_
  refine lv_iconst (v := (3 : Int32)) hx hb dL_law_400 (by decide) ?_
  refine lv_iadd hx hb dL_law_401 ?_
  refine va_sld hx hb hX hbl hbA hS (lw_in 3 hi hL (by decide)) dL_law_402 ?_
  refine lv_aload_n hx hb dL_law_403 rfl (lv_at hl 0 rfl) ?_
  refine lv_iload hx hb dL_law_404 (lv_at hl 4 rfl) ?_
  refine lv_iconst (v := (4 : Int32)) hx hb dL_law_406 (by decide) ?_
  refine lv_iadd hx hb dL_law_407 ?_
  refine va_sld hx hb hX hbl hbA hS (lw_in 4 hi hL (by decide)) dL_law_408 ?_
  refine mb_callSi (W.runV (As := [.long ((((xs ((nI i) + (1 : Int32)).toNatClampNeg).toInt64) <<< ((32 : Int32).toInt64 &&& 63)) ||| (((xs ((nI i) + (2 : Int32)).toNatClampNeg).toInt64) &&& (4294967295 : Int64))), .int (xs ((nI i) + (3 : Int32)).toNatClampNeg), .int (xs ((nI i) + (4 : Int32)).toNatClampNeg)]) (rest := []) ⟨hx, hb, hml, hown, hts⟩ (c_X2_given l dC dI cyI cyZ cyJ tK tL tG ad h2 h1 a0 a1 a2 a3 b0 b1 so fi el ab sz ot ob oc ((((xs ((nI i) + (1 : Int32)).toNatClampNeg).toInt64) <<< ((32 : Int32).toInt64 &&& 63)) ||| (((xs ((nI i) + (2 : Int32)).toNatClampNeg).toInt64) &&& (4294967295 : Int64))) (xs ((nI i) + (3 : Int32)).toNatClampNeg) (xs ((nI i) + (4 : Int32)).toNatClampNeg) hI.gz hI.ge) (cwV 3 hts gl_X2_given rfl rfl rfl (by decide +kernel) ⟨Nat.le_of_ble_eq_true rfl, Nat.le_of_ble_eq_true rfl⟩) (mb_preGV ((hG.kept hS.2.1).narrow (fun _ h => h.elim)) hK (hP.sub (ws' := [(h2, .inr (4, [.ref h1, .ref b0, .ref b1, .int oc])), (h1, .inr (3, [.ref a0, .ref a1, .ref a2, .ref a3, .int sz])), (a0, .inl (cyI, 40, .inl so)), (a1, .inl (cyZ, 40, .inl fi)), (a2, .inl (cyI, 40, .inl el)), (a3, .inl (cyJ, 40, .inr (.inl ab))), (b0, .inl (cyI, 60, .inl ot)), (b1, .inl (cyJ, 60, .inr (.inl ob)))]) [0, 1, 2, 3, 4, 5, 6, 7] rfl) (ci := 4) (q0 := 0) rfl rfl) rfl rfl hl.1 rfl (lv_room (Nat.le_of_ble_eq_true rfl)) dL_law_409 hfit) ?_
  refine lv_aload_n hx hb dL_law_412 rfl (lv_at hl 2 rfl) ?_
  refine lv_aload_n hx hb dL_law_413 rfl (lv_at hl 0 rfl) ?_
  refine lv_iload hx hb dL_law_414 (lv_at hl 4 rfl) ?_
  refine lv_iconst (v := (1 : Int32)) hx hb dL_law_416 (by decide) ?_
  refine lv_iadd hx hb dL_law_417 ?_
  refine va_sld hx hb hX hbl hbA hS (lw_in 1 hi hL (by decide)) dL_law_418 ?_
  refine lv_i2l hx hb dL_law_419 rfl ?_
  refine lv_bipush (v := (32 : Int32)) hx hb dL_law_420 (by decide) ?_
  refine lv_lshl hx hb dL_law_422 rfl ?_
  refine lv_aload_n hx hb dL_law_423 rfl (lv_at hl 0 rfl) ?_
  refine lv_iload hx hb dL_law_424 (lv_at hl 4 rfl) ?_
  refine lv_iconst (v := (2 : Int32)) hx hb dL_law_426 (by decide) ?_
  refine lv_iadd hx hb dL_law_427 ?_
  refine va_sld hx hb hX hbl hbA hS (lw_in 2 hi hL (by decide)) dL_law_428 ?_
  refine lv_i2l hx hb dL_law_429 rfl ?_
  refine lv_ldc2 (v := (4294967295 : Int64)) hx hb hown (hts _ ((gk_own (.constantLong RL 49 4294967295) (by decide +kernel)).1)) dL_law_430 ?_
  refine lv_land hx hb dL_law_433 ?_
  refine lv_lor hx hb dL_law_434 ?_
  refine lv_aload_n hx hb dL_law_435 rfl (lv_at hl 0 rfl) ?_
  refine lv_iload hx hb dL_law_436 (lv_at hl 4 rfl) ?_
  refine lv_iconst (v := (3 : Int32)) hx hb dL_law_438 (by decide) ?_
  refine lv_iadd hx hb dL_law_439 ?_
  refine va_sld hx hb hX hbl hbA hS (lw_in 3 hi hL (by decide)) dL_law_440 ?_
  refine lv_aload_n hx hb dL_law_441 rfl (lv_at hl 0 rfl) ?_
  refine lv_iload hx hb dL_law_442 (lv_at hl 4 rfl) ?_
  refine lv_iconst (v := (4 : Int32)) hx hb dL_law_444 (by decide) ?_
  refine lv_iadd hx hb dL_law_445 ?_
  refine va_sld hx hb hX hbl hbA hS (lw_in 4 hi hL (by decide)) dL_law_446 ?_
  have hpe := pe_given hI ((((xs ((nI i) + (1 : Int32)).toNatClampNeg).toInt64) <<< ((32 : Int32).toInt64 &&& 63)) ||| (((xs ((nI i) + (2 : Int32)).toNatClampNeg).toInt64) &&& (4294967295 : Int64))) (xs ((nI i) + (3 : Int32)).toNatClampNeg) (xs ((nI i) + (4 : Int32)).toNatClampNeg)
  have hc := c_X3_given l dC dI cyI cyZ cyJ h3 e0 e1 e2 e3 e4 e5 e6 th ro rf re av un ty kp bt rk H.size ((((xs ((nI i) + (1 : Int32)).toNatClampNeg).toInt64) <<< ((32 : Int32).toInt64 &&& 63)) ||| (((xs ((nI i) + (2 : Int32)).toNatClampNeg).toInt64) &&& (4294967295 : Int64))) (xs ((nI i) + (3 : Int32)).toNatClampNeg) (xs ((nI i) + (4 : Int32)).toNatClampNeg) hI.gz3 hI.ge3
  generalize hF3 : f_X3_given th ro rf re av un ty kp bt rk ((((xs ((nI i) + (1 : Int32)).toNatClampNeg).toInt64) <<< ((32 : Int32).toInt64 &&& 63)) ||| (((xs ((nI i) + (2 : Int32)).toNatClampNeg).toInt64) &&& (4294967295 : Int64))) (xs ((nI i) + (3 : Int32)).toNatClampNeg) (xs ((nI i) + (4 : Int32)).toNatClampNeg) = F3 at hc hpe
  obtain ⟨r3, th3⟩ := F3
  have hPc := hP.sub (ws' := [(h3, .inr (5, [.int th, .int ty, .ref e0, .ref e1, .ref e2, .ref e3, .ref e4, .int rk, .ref e5, .ref e6])), (e0, .inl (cyI, 40, .inl ro)), (e1, .inl (cyZ, 40, .inl rf)), (e2, .inl (cyI, 40, .inl re)), (e3, .inl (cyI, 120, .inl av)), (e4, .inl (cyZ, 1600, .inl un)), (e5, .inl (cyI, 60, .inl kp)), (e6, .inl (cyJ, 60, .inr (.inl bt)))]) [8, 9, 10, 11, 12, 13, 14, 15] rfl
  have hDc := hD.sub (ws' := [(h3, .inr (5, [.int th, .int ty, .ref e0, .ref e1, .ref e2, .ref e3, .ref e4, .int rk, .ref e5, .ref e6])), (e0, .inl (cyI, 40, .inl ro)), (e1, .inl (cyZ, 40, .inl rf)), (e2, .inl (cyI, 40, .inl re)), (e3, .inl (cyI, 120, .inl av)), (e4, .inl (cyZ, 1600, .inl un)), (e5, .inl (cyI, 60, .inl kp)), (e6, .inl (cyJ, 60, .inr (.inl bt)))]) [8, 9, 10, 11, 12, 13, 14, 15] (by decide) rfl
  have hFc := va_free (wc := [(h3, .inr (5, [.int th, .int ty, .ref e0, .ref e1, .ref e2, .ref e3, .ref e4, .int rk, .ref e5, .ref e6])), (e0, .inl (cyI, 40, .inl ro)), (e1, .inl (cyZ, 40, .inl rf)), (e2, .inl (cyI, 40, .inl re)), (e3, .inl (cyI, 120, .inl av)), (e4, .inl (cyZ, 1600, .inl un)), (e5, .inl (cyI, 60, .inl kp)), (e6, .inl (cyJ, 60, .inr (.inl bt)))]) hD hS hA [8, 9, 10, 11, 12, 13, 14, 15] rfl
  refine mb_calli (va_runV (As := [.long ((((xs ((nI i) + (1 : Int32)).toNatClampNeg).toInt64) <<< ((32 : Int32).toInt64 &&& 63)) ||| (((xs ((nI i) + (2 : Int32)).toNatClampNeg).toInt64) &&& (4294967295 : Int64))), .int (xs ((nI i) + (3 : Int32)).toNatClampNeg), .int (xs ((nI i) + (4 : Int32)).toNatClampNeg)]) (rest := [.int (f_X2_given so fi el ab sz ot ob oc ((((xs ((nI i) + (1 : Int32)).toNatClampNeg).toInt64) <<< ((32 : Int32).toInt64 &&& 63)) ||| (((xs ((nI i) + (2 : Int32)).toNatClampNeg).toInt64) &&& (4294967295 : Int64))) (xs ((nI i) + (3 : Int32)).toNatClampNeg) (xs ((nI i) + (4 : Int32)).toNatClampNeg))]) ⟨hx, hb, hml, hown, hts⟩ hc (cwV 3 hts gl_X3_given rfl rfl rfl (by decide +kernel) ⟨Nat.le_of_ble_eq_true rfl, Nat.le_of_ble_eq_true rfl⟩) (mb_preM hK hPc hDc (ci := 5) (q0 := 0) rfl rfl) rfl rfl hl.1 rfl (lv_room (Nat.le_of_ble_eq_true rfl)) dL_law_447 hfit) hS (fun q _ h => hFc q h) hFc (fun tq H locs htq hvmq hBq hk1 hS => ?_)
  obtain ⟨hP1, hK1, hD1⟩ := hBq
  rw [htq] at hP1
  have hP1 : va_P (dC, dI) vwCl [(h3, .inr (5, [.int th3, .int ty, .ref e0, .ref e1, .ref e2, .ref e3, .ref e4, .int rk, .ref e5, .ref e6])), (e0, .inl (cyI, 40, .inl ro)), (e1, .inl (cyZ, 40, .inl rf)), (e2, .inl (cyI, 40, .inl re)), (e3, .inl (cyI, 120, .inl av)), (e4, .inl (cyZ, 1600, .inl un)), (e5, .inl (cyI, 60, .inl kp)), (e6, .inl (cyJ, 60, .inr (.inl bt)))] H := hP1
  obtain ⟨hP, hD⟩ := va_join (wr := [(h2, .inr (4, [.ref h1, .ref b0, .ref b1, .int oc])), (h1, .inr (3, [.ref a0, .ref a1, .ref a2, .ref a3, .int sz])), (a0, .inl (cyI, 40, .inl so)), (a1, .inl (cyZ, 40, .inl fi)), (a2, .inl (cyI, 40, .inl el)), (a3, .inl (cyJ, 40, .inr (.inl ab))), (b0, .inl (cyI, 60, .inl ot)), (b1, .inl (cyJ, 60, .inr (.inl ob))), (o0, .inl (cyJ, 1, .inr (.inl ow)))]) (w1 := [(h3, .inr (5, [.int th3, .int ty, .ref e0, .ref e1, .ref e2, .ref e3, .ref e4, .int rk, .ref e5, .ref e6])), (e0, .inl (cyI, 40, .inl ro)), (e1, .inl (cyZ, 40, .inl rf)), (e2, .inl (cyI, 40, .inl re)), (e3, .inl (cyI, 120, .inl av)), (e4, .inl (cyZ, 1600, .inl un)), (e5, .inl (cyI, 60, .inl kp)), (e6, .inl (cyJ, 60, .inr (.inl bt)))]) hP hD [8, 9, 10, 11, 12, 13, 14, 15] [0, 1, 2, 3, 4, 5, 6, 7, 16] rfl rfl (by decide) (by decide) hk1 hFc hP1 hD1
  have hP := hP.sub (ws' := [(h2, .inr (4, [.ref h1, .ref b0, .ref b1, .int oc])), (h1, .inr (3, [.ref a0, .ref a1, .ref a2, .ref a3, .int sz])), (a0, .inl (cyI, 40, .inl so)), (a1, .inl (cyZ, 40, .inl fi)), (a2, .inl (cyI, 40, .inl el)), (a3, .inl (cyJ, 40, .inr (.inl ab))), (b0, .inl (cyI, 60, .inl ot)), (b1, .inl (cyJ, 60, .inr (.inl ob))), (h3, .inr (5, [.int th3, .int ty, .ref e0, .ref e1, .ref e2, .ref e3, .ref e4, .int rk, .ref e5, .ref e6])), (e0, .inl (cyI, 40, .inl ro)), (e1, .inl (cyZ, 40, .inl rf)), (e2, .inl (cyI, 40, .inl re)), (e3, .inl (cyI, 120, .inl av)), (e4, .inl (cyZ, 1600, .inl un)), (e5, .inl (cyI, 60, .inl kp)), (e6, .inl (cyJ, 60, .inr (.inl bt))), (o0, .inl (cyJ, 1, .inr (.inl ow)))]) [0, 1, 2, 3, 4, 5, 6, 7, 9, 10, 11, 12, 13, 14, 15, 16, 8] rfl
  have hD := hD.sub (ws' := [(h2, .inr (4, [.ref h1, .ref b0, .ref b1, .int oc])), (h1, .inr (3, [.ref a0, .ref a1, .ref a2, .ref a3, .int sz])), (a0, .inl (cyI, 40, .inl so)), (a1, .inl (cyZ, 40, .inl fi)), (a2, .inl (cyI, 40, .inl el)), (a3, .inl (cyJ, 40, .inr (.inl ab))), (b0, .inl (cyI, 60, .inl ot)), (b1, .inl (cyJ, 60, .inr (.inl ob))), (h3, .inr (5, [.int th3, .int ty, .ref e0, .ref e1, .ref e2, .ref e3, .ref e4, .int rk, .ref e5, .ref e6])), (e0, .inl (cyI, 40, .inl ro)), (e1, .inl (cyZ, 40, .inl rf)), (e2, .inl (cyI, 40, .inl re)), (e3, .inl (cyI, 120, .inl av)), (e4, .inl (cyZ, 1600, .inl un)), (e5, .inl (cyI, 60, .inl kp)), (e6, .inl (cyJ, 60, .inr (.inl bt))), (o0, .inl (cyJ, 1, .inr (.inl ow)))]) [0, 1, 2, 3, 4, 5, 6, 7, 9, 10, 11, 12, 13, 14, 15, 16, 8] (by decide) rfl
  have hI : Inv (so, fi, el, ab, sz, ot, ob, oc) (th3, ro, rf, re, av, un, ty, kp, bt, rk) := hI
  refine lv_icmp_eq (tgt := 933) hx hb dL_law_450 (by decide) (fun c_1 => ?_) (fun c_1 => absurd hpe c_1)
  exact W.widen (by omega) (by omega) (K _ _ _ _ _ _ _ _ _ _ _ _ _ _ _ _ _ _ _ _ _ _ ⟨hP, hD, hS, hI⟩ hl)
set_option maxHeartbeats 8000000 in
set_option maxRecDepth 100000 in
theorem lw_c7 {p : Program} {l : Launch} {e : Env} {s : State} {m : MethodId} {below : List Frame} {meth : Method} {c : Code} {b L : Nat} {xs : Nat → Int32} {dC : Nat → ClassId} {dI : Nat → Nat → Nat} {cyI cyZ cyJ : ClassId} {tK tL tG : Nat} {ad : Nat → Nat} {h2 h1 a0 a1 a2 a3 b0 b1 h3 e0 e1 e2 e3 e4 e5 e6 o0 : Nat} {so : Nat → Int32} {fi : Nat → Int32} {el : Nat → Int32} {ab : Nat → Int64} {sz : Int32} {ot : Nat → Int32} {ob : Nat → Int64} {oc : Int32} {th : Int32} {ro : Nat → Int32} {rf : Nat → Int32} {re : Nat → Int32} {av : Nat → Int32} {un : Nat → Int32} {ty : Int32} {kp : Nat → Int32} {bt : Nat → Int64} {rk : Int32} {ow : Nat → Int64} {H : Heap} {locs : List Loc} {cells slots i : Nat} {Q : State → Prop} {ls : Array Slot} (hC : lw_K p l s m meth c b L xs dC dI cyI cyZ cyJ tK tL tG ad) (hJ : lw_J s dC dI cyI cyZ cyJ h2 h1 a0 a1 a2 a3 b0 b1 h3 e0 e1 e2 e3 e4 e5 e6 o0 so fi el ab sz ot ob oc th ro rf re av un ty kp bt rk ow H locs) (hl : lv_has ls 8 (lw_l b h2 h3 o0 i)) (hi : i + 5 ≤ L) (hcc : cells + 1 ≤ 600128) (hss : slots + 8 ≤ 7301098) (K : ∀ (ls : Array Slot) (so : Nat → Int32) (fi : Nat → Int32) (el : Nat → Int32) (ab : Nat → Int64) (sz : Int32) (ot : Nat → Int32) (ob : Nat → Int64) (oc : Int32) (th : Int32) (ro : Nat → Int32) (rf : Nat → Int32) (re : Nat → Int32) (av : Nat → Int32) (un : Nat → Int32) (ty : Int32) (kp : Nat → Int32) (bt : Nat → Int64) (rk : Int32) (ow : Nat → Int64) (H : Heap) (locs : List Loc), lw_J s dC dI cyI cyZ cyJ h2 h1 a0 a1 a2 a3 b0 b1 h3 e0 e1 e2 e3 e4 e5 e6 o0 so fi el ab sz ot ob oc th ro rf re av un ty kp bt rk ow H locs → lv_has ls 8 (lw_l b h2 h3 o0 i) → W p l e room_1 s m #[Value.ref b] below meth c H locs (cells + 1) (slots + 8) Q (F0 m 933 ls [])) : W p l e room_1 s m #[Value.ref b] below meth c H locs cells slots Q (F0 m 455 ls []) := by
  obtain ⟨hx, hb, hr, hml, hown, hts, hX, hbl, hlocks, hL, hl0, hK, hG, hTH, hNc⟩ := hC
  obtain ⟨hP, hD, hS, hI⟩ := hJ
  have hbA : ¬ lw_A s b := Nat.not_le.mpr hbl
  have hA : ∀ q : Nat, s.heap.size ≤ q → lw_A s q := fun q h => h
  have hfit : cells + 0 ≤ room_1.cells ∧ slots + 0 ≤ room_1.slots := by constructor <;> (show _ ≤ (_ : Nat)) <;> (simp only [room_1]) <;> omega
  have hl : lv_has ls 8 [(0, .ref b), (1, .ref h2), (2, .ref h3), (3, .ref o0), (4, .int (nI i))] := hl
  refine lv_aload_n hx hb dL_law_455 rfl (lv_at hl 1 rfl) ?_
  refine lv_aload_n hx hb dL_law_456 rfl (lv_at hl 0 rfl) ?_
  refine lv_iload hx hb dL_law_457 (lv_at hl 4 rfl) ?_
  refine lv_iconst (v := (1 : Int32)) hx hb dL_law_459 (by decide) ?_
  refine lv_iadd hx hb dL_law_460 ?_
  refine va_sld hx hb hX hbl hbA hS (lw_in 1 hi hL (by decide)) dL_law_461 ?_
  refine lv_aload_n hx hb dL_law_462 rfl (lv_at hl 0 rfl) ?_
  refine lv_iload hx hb dL_law_463 (lv_at hl 4 rfl) ?_
  refine lv_iconst (v := (2 : Int32)) hx hb dL_law_465 (by decide) ?_
  refine lv_iadd hx hb dL_law_466 ?_
  refine va_sld hx hb hX hbl hbA hS (lw_in 2 hi hL (by decide)) dL_law_467 ?_
  refine mb_callSi (W.runV (As := [.int (xs ((nI i) + (1 : Int32)).toNatClampNeg), .int (xs ((nI i) + (2 : Int32)).toNatClampNeg)]) (rest := []) ⟨hx, hb, hml, hown, hts⟩ (c_X2_targets l dC dI cyI cyZ cyJ tK tL tG ad h2 h1 a0 a1 a2 a3 b0 b1 so fi el ab sz ot ob oc (xs ((nI i) + (1 : Int32)).toNatClampNeg) (xs ((nI i) + (2 : Int32)).toNatClampNeg) hI.gz hI.ge) (cwV 2 hts gl_X2_targets rfl rfl rfl (by decide +kernel) ⟨Nat.le_of_ble_eq_true rfl, Nat.le_of_ble_eq_true rfl⟩) (mb_preGV ((hG.kept hS.2.1).narrow (fun _ h => h.elim)) hK (hP.sub (ws' := [(h2, .inr (4, [.ref h1, .ref b0, .ref b1, .int oc])), (h1, .inr (3, [.ref a0, .ref a1, .ref a2, .ref a3, .int sz])), (a0, .inl (cyI, 40, .inl so)), (a1, .inl (cyZ, 40, .inl fi)), (a2, .inl (cyI, 40, .inl el)), (a3, .inl (cyJ, 40, .inr (.inl ab))), (b0, .inl (cyI, 60, .inl ot)), (b1, .inl (cyJ, 60, .inr (.inl ob)))]) [0, 1, 2, 3, 4, 5, 6, 7] rfl) (ci := 4) (q0 := 0) rfl rfl) rfl rfl hl.1 rfl (lv_room (Nat.le_of_ble_eq_true rfl)) dL_law_468 hfit) ?_
  refine lv_aload_n hx hb dL_law_471 rfl (lv_at hl 2 rfl) ?_
  refine lv_aload_n hx hb dL_law_472 rfl (lv_at hl 0 rfl) ?_
  refine lv_iload hx hb dL_law_473 (lv_at hl 4 rfl) ?_
  refine lv_iconst (v := (1 : Int32)) hx hb dL_law_475 (by decide) ?_
  refine lv_iadd hx hb dL_law_476 ?_
  refine va_sld hx hb hX hbl hbA hS (lw_in 1 hi hL (by decide)) dL_law_477 ?_
  refine lv_aload_n hx hb dL_law_478 rfl (lv_at hl 0 rfl) ?_
  refine lv_iload hx hb dL_law_479 (lv_at hl 4 rfl) ?_
  refine lv_iconst (v := (2 : Int32)) hx hb dL_law_481 (by decide) ?_
  refine lv_iadd hx hb dL_law_482 ?_
  refine va_sld hx hb hX hbl hbA hS (lw_in 2 hi hL (by decide)) dL_law_483 ?_
  have hpe := pe_targets hI (xs ((nI i) + (1 : Int32)).toNatClampNeg) (xs ((nI i) + (2 : Int32)).toNatClampNeg)
  have hc := c_X3_targets l dC dI cyI cyZ cyJ h3 e0 e1 e2 e3 e4 e5 e6 th ro rf re av un ty kp bt rk H.size (xs ((nI i) + (1 : Int32)).toNatClampNeg) (xs ((nI i) + (2 : Int32)).toNatClampNeg) hI.gz3 hI.ge3
  generalize hF3 : f_X3_targets th ro rf re av un ty kp bt rk (xs ((nI i) + (1 : Int32)).toNatClampNeg) (xs ((nI i) + (2 : Int32)).toNatClampNeg) = F3 at hc hpe
  obtain ⟨r3, th3⟩ := F3
  have hPc := hP.sub (ws' := [(h3, .inr (5, [.int th, .int ty, .ref e0, .ref e1, .ref e2, .ref e3, .ref e4, .int rk, .ref e5, .ref e6])), (e0, .inl (cyI, 40, .inl ro)), (e1, .inl (cyZ, 40, .inl rf)), (e2, .inl (cyI, 40, .inl re)), (e3, .inl (cyI, 120, .inl av)), (e4, .inl (cyZ, 1600, .inl un)), (e5, .inl (cyI, 60, .inl kp)), (e6, .inl (cyJ, 60, .inr (.inl bt)))]) [8, 9, 10, 11, 12, 13, 14, 15] rfl
  have hDc := hD.sub (ws' := [(h3, .inr (5, [.int th, .int ty, .ref e0, .ref e1, .ref e2, .ref e3, .ref e4, .int rk, .ref e5, .ref e6])), (e0, .inl (cyI, 40, .inl ro)), (e1, .inl (cyZ, 40, .inl rf)), (e2, .inl (cyI, 40, .inl re)), (e3, .inl (cyI, 120, .inl av)), (e4, .inl (cyZ, 1600, .inl un)), (e5, .inl (cyI, 60, .inl kp)), (e6, .inl (cyJ, 60, .inr (.inl bt)))]) [8, 9, 10, 11, 12, 13, 14, 15] (by decide) rfl
  have hFc := va_free (wc := [(h3, .inr (5, [.int th, .int ty, .ref e0, .ref e1, .ref e2, .ref e3, .ref e4, .int rk, .ref e5, .ref e6])), (e0, .inl (cyI, 40, .inl ro)), (e1, .inl (cyZ, 40, .inl rf)), (e2, .inl (cyI, 40, .inl re)), (e3, .inl (cyI, 120, .inl av)), (e4, .inl (cyZ, 1600, .inl un)), (e5, .inl (cyI, 60, .inl kp)), (e6, .inl (cyJ, 60, .inr (.inl bt)))]) hD hS hA [8, 9, 10, 11, 12, 13, 14, 15] rfl
  refine mb_calli (va_runV (As := [.int (xs ((nI i) + (1 : Int32)).toNatClampNeg), .int (xs ((nI i) + (2 : Int32)).toNatClampNeg)]) (rest := [.int (f_X2_targets so fi el ab sz ot ob oc (xs ((nI i) + (1 : Int32)).toNatClampNeg) (xs ((nI i) + (2 : Int32)).toNatClampNeg))]) ⟨hx, hb, hml, hown, hts⟩ hc (cwV 2 hts gl_X3_targets rfl rfl rfl (by decide +kernel) ⟨Nat.le_of_ble_eq_true rfl, Nat.le_of_ble_eq_true rfl⟩) (mb_preM hK hPc hDc (ci := 5) (q0 := 0) rfl rfl) rfl rfl hl.1 rfl (lv_room (Nat.le_of_ble_eq_true rfl)) dL_law_484 hfit) hS (fun q _ h => hFc q h) hFc (fun tq H locs htq hvmq hBq hk1 hS => ?_)
  obtain ⟨hP1, hK1, hD1⟩ := hBq
  rw [htq] at hP1
  have hP1 : va_P (dC, dI) vwCl [(h3, .inr (5, [.int th3, .int ty, .ref e0, .ref e1, .ref e2, .ref e3, .ref e4, .int rk, .ref e5, .ref e6])), (e0, .inl (cyI, 40, .inl ro)), (e1, .inl (cyZ, 40, .inl rf)), (e2, .inl (cyI, 40, .inl re)), (e3, .inl (cyI, 120, .inl av)), (e4, .inl (cyZ, 1600, .inl un)), (e5, .inl (cyI, 60, .inl kp)), (e6, .inl (cyJ, 60, .inr (.inl bt)))] H := hP1
  obtain ⟨hP, hD⟩ := va_join (wr := [(h2, .inr (4, [.ref h1, .ref b0, .ref b1, .int oc])), (h1, .inr (3, [.ref a0, .ref a1, .ref a2, .ref a3, .int sz])), (a0, .inl (cyI, 40, .inl so)), (a1, .inl (cyZ, 40, .inl fi)), (a2, .inl (cyI, 40, .inl el)), (a3, .inl (cyJ, 40, .inr (.inl ab))), (b0, .inl (cyI, 60, .inl ot)), (b1, .inl (cyJ, 60, .inr (.inl ob))), (o0, .inl (cyJ, 1, .inr (.inl ow)))]) (w1 := [(h3, .inr (5, [.int th3, .int ty, .ref e0, .ref e1, .ref e2, .ref e3, .ref e4, .int rk, .ref e5, .ref e6])), (e0, .inl (cyI, 40, .inl ro)), (e1, .inl (cyZ, 40, .inl rf)), (e2, .inl (cyI, 40, .inl re)), (e3, .inl (cyI, 120, .inl av)), (e4, .inl (cyZ, 1600, .inl un)), (e5, .inl (cyI, 60, .inl kp)), (e6, .inl (cyJ, 60, .inr (.inl bt)))]) hP hD [8, 9, 10, 11, 12, 13, 14, 15] [0, 1, 2, 3, 4, 5, 6, 7, 16] rfl rfl (by decide) (by decide) hk1 hFc hP1 hD1
  have hP := hP.sub (ws' := [(h2, .inr (4, [.ref h1, .ref b0, .ref b1, .int oc])), (h1, .inr (3, [.ref a0, .ref a1, .ref a2, .ref a3, .int sz])), (a0, .inl (cyI, 40, .inl so)), (a1, .inl (cyZ, 40, .inl fi)), (a2, .inl (cyI, 40, .inl el)), (a3, .inl (cyJ, 40, .inr (.inl ab))), (b0, .inl (cyI, 60, .inl ot)), (b1, .inl (cyJ, 60, .inr (.inl ob))), (h3, .inr (5, [.int th3, .int ty, .ref e0, .ref e1, .ref e2, .ref e3, .ref e4, .int rk, .ref e5, .ref e6])), (e0, .inl (cyI, 40, .inl ro)), (e1, .inl (cyZ, 40, .inl rf)), (e2, .inl (cyI, 40, .inl re)), (e3, .inl (cyI, 120, .inl av)), (e4, .inl (cyZ, 1600, .inl un)), (e5, .inl (cyI, 60, .inl kp)), (e6, .inl (cyJ, 60, .inr (.inl bt))), (o0, .inl (cyJ, 1, .inr (.inl ow)))]) [0, 1, 2, 3, 4, 5, 6, 7, 9, 10, 11, 12, 13, 14, 15, 16, 8] rfl
  have hD := hD.sub (ws' := [(h2, .inr (4, [.ref h1, .ref b0, .ref b1, .int oc])), (h1, .inr (3, [.ref a0, .ref a1, .ref a2, .ref a3, .int sz])), (a0, .inl (cyI, 40, .inl so)), (a1, .inl (cyZ, 40, .inl fi)), (a2, .inl (cyI, 40, .inl el)), (a3, .inl (cyJ, 40, .inr (.inl ab))), (b0, .inl (cyI, 60, .inl ot)), (b1, .inl (cyJ, 60, .inr (.inl ob))), (h3, .inr (5, [.int th3, .int ty, .ref e0, .ref e1, .ref e2, .ref e3, .ref e4, .int rk, .ref e5, .ref e6])), (e0, .inl (cyI, 40, .inl ro)), (e1, .inl (cyZ, 40, .inl rf)), (e2, .inl (cyI, 40, .inl re)), (e3, .inl (cyI, 120, .inl av)), (e4, .inl (cyZ, 1600, .inl un)), (e5, .inl (cyI, 60, .inl kp)), (e6, .inl (cyJ, 60, .inr (.inl bt))), (o0, .inl (cyJ, 1, .inr (.inl ow)))]) [0, 1, 2, 3, 4, 5, 6, 7, 9, 10, 11, 12, 13, 14, 15, 16, 8] (by decide) rfl
  have hI : Inv (so, fi, el, ab, sz, ot, ob, oc) (th3, ro, rf, re, av, un, ty, kp, bt, rk) := hI
  refine lv_icmp_eq (tgt := 933) hx hb dL_law_487 (by decide) (fun c_1 => ?_) (fun c_1 => absurd hpe c_1)
  exact W.widen (by omega) (by omega) (K _ _ _ _ _ _ _ _ _ _ _ _ _ _ _ _ _ _ _ _ _ _ ⟨hP, hD, hS, hI⟩ hl)
set_option maxHeartbeats 8000000 in
set_option maxRecDepth 100000 in
theorem lw_c8 {p : Program} {l : Launch} {e : Env} {s : State} {m : MethodId} {below : List Frame} {meth : Method} {c : Code} {b L : Nat} {xs : Nat → Int32} {dC : Nat → ClassId} {dI : Nat → Nat → Nat} {cyI cyZ cyJ : ClassId} {tK tL tG : Nat} {ad : Nat → Nat} {h2 h1 a0 a1 a2 a3 b0 b1 h3 e0 e1 e2 e3 e4 e5 e6 o0 : Nat} {so : Nat → Int32} {fi : Nat → Int32} {el : Nat → Int32} {ab : Nat → Int64} {sz : Int32} {ot : Nat → Int32} {ob : Nat → Int64} {oc : Int32} {th : Int32} {ro : Nat → Int32} {rf : Nat → Int32} {re : Nat → Int32} {av : Nat → Int32} {un : Nat → Int32} {ty : Int32} {kp : Nat → Int32} {bt : Nat → Int64} {rk : Int32} {ow : Nat → Int64} {H : Heap} {locs : List Loc} {cells slots i : Nat} {Q : State → Prop} {ls : Array Slot} (hC : lw_K p l s m meth c b L xs dC dI cyI cyZ cyJ tK tL tG ad) (hJ : lw_J s dC dI cyI cyZ cyJ h2 h1 a0 a1 a2 a3 b0 b1 h3 e0 e1 e2 e3 e4 e5 e6 o0 so fi el ab sz ot ob oc th ro rf re av un ty kp bt rk ow H locs) (hl : lv_has ls 8 (lw_l b h2 h3 o0 i)) (hi : i + 5 ≤ L) (hcc : cells + 1 ≤ 600128) (hss : slots + 8 ≤ 7301098) (K : ∀ (ls : Array Slot) (so : Nat → Int32) (fi : Nat → Int32) (el : Nat → Int32) (ab : Nat → Int64) (sz : Int32) (ot : Nat → Int32) (ob : Nat → Int64) (oc : Int32) (th : Int32) (ro : Nat → Int32) (rf : Nat → Int32) (re : Nat → Int32) (av : Nat → Int32) (un : Nat → Int32) (ty : Int32) (kp : Nat → Int32) (bt : Nat → Int64) (rk : Int32) (ow : Nat → Int64) (H : Heap) (locs : List Loc), lw_J s dC dI cyI cyZ cyJ h2 h1 a0 a1 a2 a3 b0 b1 h3 e0 e1 e2 e3 e4 e5 e6 o0 so fi el ab sz ot ob oc th ro rf re av un ty kp bt rk ow H locs → lv_has ls 8 (lw_l b h2 h3 o0 i) → W p l e room_1 s m #[Value.ref b] below meth c H locs (cells + 1) (slots + 8) Q (F0 m 933 ls [])) : W p l e room_1 s m #[Value.ref b] below meth c H locs cells slots Q (F0 m 492 ls []) := by
  obtain ⟨hx, hb, hr, hml, hown, hts, hX, hbl, hlocks, hL, hl0, hK, hG, hTH, hNc⟩ := hC
  obtain ⟨hP, hD, hS, hI⟩ := hJ
  have hbA : ¬ lw_A s b := Nat.not_le.mpr hbl
  have hA : ∀ q : Nat, s.heap.size ≤ q → lw_A s q := fun q h => h
  have hfit : cells + 0 ≤ room_1.cells ∧ slots + 0 ≤ room_1.slots := by constructor <;> (show _ ≤ (_ : Nat)) <;> (simp only [room_1]) <;> omega
  have hl : lv_has ls 8 [(0, .ref b), (1, .ref h2), (2, .ref h3), (3, .ref o0), (4, .int (nI i))] := hl
  refine lv_aload_n hx hb dL_law_492 rfl (lv_at hl 1 rfl) ?_
  refine lv_aload_n hx hb dL_law_493 rfl (lv_at hl 0 rfl) ?_
  refine lv_iload hx hb dL_law_494 (lv_at hl 4 rfl) ?_
  refine lv_iconst (v := (1 : Int32)) hx hb dL_law_496 (by decide) ?_
  refine lv_iadd hx hb dL_law_497 ?_
  refine va_sld hx hb hX hbl hbA hS (lw_in 1 hi hL (by decide)) dL_law_498 ?_
  refine lv_aload_n hx hb dL_law_499 rfl (lv_at hl 0 rfl) ?_
  refine lv_iload hx hb dL_law_500 (lv_at hl 4 rfl) ?_
  refine lv_iconst (v := (2 : Int32)) hx hb dL_law_502 (by decide) ?_
  refine lv_iadd hx hb dL_law_503 ?_
  refine va_sld hx hb hX hbl hbA hS (lw_in 2 hi hL (by decide)) dL_law_504 ?_
  refine lv_i2l hx hb dL_law_505 rfl ?_
  refine lv_bipush (v := (32 : Int32)) hx hb dL_law_506 (by decide) ?_
  refine lv_lshl hx hb dL_law_508 rfl ?_
  refine lv_aload_n hx hb dL_law_509 rfl (lv_at hl 0 rfl) ?_
  refine lv_iload hx hb dL_law_510 (lv_at hl 4 rfl) ?_
  refine lv_iconst (v := (3 : Int32)) hx hb dL_law_512 (by decide) ?_
  refine lv_iadd hx hb dL_law_513 ?_
  refine va_sld hx hb hX hbl hbA hS (lw_in 3 hi hL (by decide)) dL_law_514 ?_
  refine lv_i2l hx hb dL_law_515 rfl ?_
  refine lv_ldc2 (v := (4294967295 : Int64)) hx hb hown (hts _ ((gk_own (.constantLong RL 49 4294967295) (by decide +kernel)).1)) dL_law_516 ?_
  refine lv_land hx hb dL_law_519 ?_
  refine lv_lor hx hb dL_law_520 ?_
  refine lv_aload_n hx hb dL_law_521 rfl (lv_at hl 0 rfl) ?_
  refine lv_iload hx hb dL_law_522 (lv_at hl 4 rfl) ?_
  refine lv_iconst (v := (4 : Int32)) hx hb dL_law_524 (by decide) ?_
  refine lv_iadd hx hb dL_law_525 ?_
  refine va_sld hx hb hX hbl hbA hS (lw_in 4 hi hL (by decide)) dL_law_526 ?_
  refine mb_callSl (W.runV (As := [.int (xs ((nI i) + (1 : Int32)).toNatClampNeg), .long ((((xs ((nI i) + (2 : Int32)).toNatClampNeg).toInt64) <<< ((32 : Int32).toInt64 &&& 63)) ||| (((xs ((nI i) + (3 : Int32)).toNatClampNeg).toInt64) &&& (4294967295 : Int64))), .int (xs ((nI i) + (4 : Int32)).toNatClampNeg)]) (rest := []) ⟨hx, hb, hml, hown, hts⟩ (c_X2_turned l dC dI cyI cyZ cyJ tK tL tG ad h2 h1 a0 a1 a2 a3 b0 b1 so fi el ab sz ot ob oc (xs ((nI i) + (1 : Int32)).toNatClampNeg) ((((xs ((nI i) + (2 : Int32)).toNatClampNeg).toInt64) <<< ((32 : Int32).toInt64 &&& 63)) ||| (((xs ((nI i) + (3 : Int32)).toNatClampNeg).toInt64) &&& (4294967295 : Int64))) (xs ((nI i) + (4 : Int32)).toNatClampNeg)) (cwV 3 hts gl_X2_turned rfl rfl rfl (by decide +kernel) ⟨Nat.le_of_ble_eq_true rfl, Nat.le_of_ble_eq_true rfl⟩) (mb_preGV ((hG.kept hS.2.1).narrow (fun _ h => h.elim)) hK (hP.sub (ws' := [(h2, .inr (4, [.ref h1, .ref b0, .ref b1, .int oc])), (h1, .inr (3, [.ref a0, .ref a1, .ref a2, .ref a3, .int sz])), (a0, .inl (cyI, 40, .inl so)), (a1, .inl (cyZ, 40, .inl fi)), (a2, .inl (cyI, 40, .inl el)), (a3, .inl (cyJ, 40, .inr (.inl ab))), (b0, .inl (cyI, 60, .inl ot)), (b1, .inl (cyJ, 60, .inr (.inl ob)))]) [0, 1, 2, 3, 4, 5, 6, 7] rfl) (ci := 4) (q0 := 0) rfl rfl) rfl rfl hl.1 rfl (lv_room (Nat.le_of_ble_eq_true rfl)) dL_law_527 hfit) ?_
  refine lv_aload_n hx hb dL_law_530 rfl (lv_at hl 2 rfl) ?_
  refine lv_aload_n hx hb dL_law_531 rfl (lv_at hl 0 rfl) ?_
  refine lv_iload hx hb dL_law_532 (lv_at hl 4 rfl) ?_
  refine lv_iconst (v := (1 : Int32)) hx hb dL_law_534 (by decide) ?_
  refine lv_iadd hx hb dL_law_535 ?_
  refine va_sld hx hb hX hbl hbA hS (lw_in 1 hi hL (by decide)) dL_law_536 ?_
  refine lv_aload_n hx hb dL_law_537 rfl (lv_at hl 0 rfl) ?_
  refine lv_iload hx hb dL_law_538 (lv_at hl 4 rfl) ?_
  refine lv_iconst (v := (2 : Int32)) hx hb dL_law_540 (by decide) ?_
  refine lv_iadd hx hb dL_law_541 ?_
  refine va_sld hx hb hX hbl hbA hS (lw_in 2 hi hL (by decide)) dL_law_542 ?_
  refine lv_i2l hx hb dL_law_543 rfl ?_
  refine lv_bipush (v := (32 : Int32)) hx hb dL_law_544 (by decide) ?_
  refine lv_lshl hx hb dL_law_546 rfl ?_
  refine lv_aload_n hx hb dL_law_547 rfl (lv_at hl 0 rfl) ?_
  refine lv_iload hx hb dL_law_548 (lv_at hl 4 rfl) ?_
  refine lv_iconst (v := (3 : Int32)) hx hb dL_law_550 (by decide) ?_
  refine lv_iadd hx hb dL_law_551 ?_
  refine va_sld hx hb hX hbl hbA hS (lw_in 3 hi hL (by decide)) dL_law_552 ?_
  refine lv_i2l hx hb dL_law_553 rfl ?_
  refine lv_ldc2 (v := (4294967295 : Int64)) hx hb hown (hts _ ((gk_own (.constantLong RL 49 4294967295) (by decide +kernel)).1)) dL_law_554 ?_
  refine lv_land hx hb dL_law_557 ?_
  refine lv_lor hx hb dL_law_558 ?_
  refine lv_aload_n hx hb dL_law_559 rfl (lv_at hl 0 rfl) ?_
  refine lv_iload hx hb dL_law_560 (lv_at hl 4 rfl) ?_
  refine lv_iconst (v := (4 : Int32)) hx hb dL_law_562 (by decide) ?_
  refine lv_iadd hx hb dL_law_563 ?_
  refine va_sld hx hb hX hbl hbA hS (lw_in 4 hi hL (by decide)) dL_law_564 ?_
  have hpe := pe_turned hI (xs ((nI i) + (1 : Int32)).toNatClampNeg) ((((xs ((nI i) + (2 : Int32)).toNatClampNeg).toInt64) <<< ((32 : Int32).toInt64 &&& 63)) ||| (((xs ((nI i) + (3 : Int32)).toNatClampNeg).toInt64) &&& (4294967295 : Int64))) (xs ((nI i) + (4 : Int32)).toNatClampNeg)
  have hc := c_X3_turned l dC dI cyI cyZ cyJ h3 e0 e1 e2 e3 e4 e5 e6 th ro rf re av un ty kp bt rk H.size (xs ((nI i) + (1 : Int32)).toNatClampNeg) ((((xs ((nI i) + (2 : Int32)).toNatClampNeg).toInt64) <<< ((32 : Int32).toInt64 &&& 63)) ||| (((xs ((nI i) + (3 : Int32)).toNatClampNeg).toInt64) &&& (4294967295 : Int64))) (xs ((nI i) + (4 : Int32)).toNatClampNeg) hI.gz3
  generalize hF3 : f_X3_turned th ro rf re av un ty kp bt rk (xs ((nI i) + (1 : Int32)).toNatClampNeg) ((((xs ((nI i) + (2 : Int32)).toNatClampNeg).toInt64) <<< ((32 : Int32).toInt64 &&& 63)) ||| (((xs ((nI i) + (3 : Int32)).toNatClampNeg).toInt64) &&& (4294967295 : Int64))) (xs ((nI i) + (4 : Int32)).toNatClampNeg) = F3 at hc hpe
  obtain ⟨r3, th3⟩ := F3
  have hPc := hP.sub (ws' := [(h3, .inr (5, [.int th, .int ty, .ref e0, .ref e1, .ref e2, .ref e3, .ref e4, .int rk, .ref e5, .ref e6])), (e0, .inl (cyI, 40, .inl ro)), (e1, .inl (cyZ, 40, .inl rf)), (e2, .inl (cyI, 40, .inl re)), (e3, .inl (cyI, 120, .inl av)), (e4, .inl (cyZ, 1600, .inl un)), (e5, .inl (cyI, 60, .inl kp)), (e6, .inl (cyJ, 60, .inr (.inl bt)))]) [8, 9, 10, 11, 12, 13, 14, 15] rfl
  have hDc := hD.sub (ws' := [(h3, .inr (5, [.int th, .int ty, .ref e0, .ref e1, .ref e2, .ref e3, .ref e4, .int rk, .ref e5, .ref e6])), (e0, .inl (cyI, 40, .inl ro)), (e1, .inl (cyZ, 40, .inl rf)), (e2, .inl (cyI, 40, .inl re)), (e3, .inl (cyI, 120, .inl av)), (e4, .inl (cyZ, 1600, .inl un)), (e5, .inl (cyI, 60, .inl kp)), (e6, .inl (cyJ, 60, .inr (.inl bt)))]) [8, 9, 10, 11, 12, 13, 14, 15] (by decide) rfl
  have hFc := va_free (wc := [(h3, .inr (5, [.int th, .int ty, .ref e0, .ref e1, .ref e2, .ref e3, .ref e4, .int rk, .ref e5, .ref e6])), (e0, .inl (cyI, 40, .inl ro)), (e1, .inl (cyZ, 40, .inl rf)), (e2, .inl (cyI, 40, .inl re)), (e3, .inl (cyI, 120, .inl av)), (e4, .inl (cyZ, 1600, .inl un)), (e5, .inl (cyI, 60, .inl kp)), (e6, .inl (cyJ, 60, .inr (.inl bt)))]) hD hS hA [8, 9, 10, 11, 12, 13, 14, 15] rfl
  refine mb_calll (va_runV (As := [.int (xs ((nI i) + (1 : Int32)).toNatClampNeg), .long ((((xs ((nI i) + (2 : Int32)).toNatClampNeg).toInt64) <<< ((32 : Int32).toInt64 &&& 63)) ||| (((xs ((nI i) + (3 : Int32)).toNatClampNeg).toInt64) &&& (4294967295 : Int64))), .int (xs ((nI i) + (4 : Int32)).toNatClampNeg)]) (rest := [.long (f_X2_turned so fi el ab sz ot ob oc (xs ((nI i) + (1 : Int32)).toNatClampNeg) ((((xs ((nI i) + (2 : Int32)).toNatClampNeg).toInt64) <<< ((32 : Int32).toInt64 &&& 63)) ||| (((xs ((nI i) + (3 : Int32)).toNatClampNeg).toInt64) &&& (4294967295 : Int64))) (xs ((nI i) + (4 : Int32)).toNatClampNeg))]) ⟨hx, hb, hml, hown, hts⟩ hc (cwV 3 hts gl_X3_turned rfl rfl rfl (by decide +kernel) ⟨Nat.le_of_ble_eq_true rfl, Nat.le_of_ble_eq_true rfl⟩) (mb_preM hK hPc hDc (ci := 5) (q0 := 0) rfl rfl) rfl rfl hl.1 rfl (lv_room (Nat.le_of_ble_eq_true rfl)) dL_law_565 hfit) hS (fun q _ h => hFc q h) hFc (fun tq H locs htq hvmq hBq hk1 hS => ?_)
  obtain ⟨hP1, hK1, hD1⟩ := hBq
  rw [htq] at hP1
  have hP1 : va_P (dC, dI) vwCl [(h3, .inr (5, [.int th3, .int ty, .ref e0, .ref e1, .ref e2, .ref e3, .ref e4, .int rk, .ref e5, .ref e6])), (e0, .inl (cyI, 40, .inl ro)), (e1, .inl (cyZ, 40, .inl rf)), (e2, .inl (cyI, 40, .inl re)), (e3, .inl (cyI, 120, .inl av)), (e4, .inl (cyZ, 1600, .inl un)), (e5, .inl (cyI, 60, .inl kp)), (e6, .inl (cyJ, 60, .inr (.inl bt)))] H := hP1
  obtain ⟨hP, hD⟩ := va_join (wr := [(h2, .inr (4, [.ref h1, .ref b0, .ref b1, .int oc])), (h1, .inr (3, [.ref a0, .ref a1, .ref a2, .ref a3, .int sz])), (a0, .inl (cyI, 40, .inl so)), (a1, .inl (cyZ, 40, .inl fi)), (a2, .inl (cyI, 40, .inl el)), (a3, .inl (cyJ, 40, .inr (.inl ab))), (b0, .inl (cyI, 60, .inl ot)), (b1, .inl (cyJ, 60, .inr (.inl ob))), (o0, .inl (cyJ, 1, .inr (.inl ow)))]) (w1 := [(h3, .inr (5, [.int th3, .int ty, .ref e0, .ref e1, .ref e2, .ref e3, .ref e4, .int rk, .ref e5, .ref e6])), (e0, .inl (cyI, 40, .inl ro)), (e1, .inl (cyZ, 40, .inl rf)), (e2, .inl (cyI, 40, .inl re)), (e3, .inl (cyI, 120, .inl av)), (e4, .inl (cyZ, 1600, .inl un)), (e5, .inl (cyI, 60, .inl kp)), (e6, .inl (cyJ, 60, .inr (.inl bt)))]) hP hD [8, 9, 10, 11, 12, 13, 14, 15] [0, 1, 2, 3, 4, 5, 6, 7, 16] rfl rfl (by decide) (by decide) hk1 hFc hP1 hD1
  have hP := hP.sub (ws' := [(h2, .inr (4, [.ref h1, .ref b0, .ref b1, .int oc])), (h1, .inr (3, [.ref a0, .ref a1, .ref a2, .ref a3, .int sz])), (a0, .inl (cyI, 40, .inl so)), (a1, .inl (cyZ, 40, .inl fi)), (a2, .inl (cyI, 40, .inl el)), (a3, .inl (cyJ, 40, .inr (.inl ab))), (b0, .inl (cyI, 60, .inl ot)), (b1, .inl (cyJ, 60, .inr (.inl ob))), (h3, .inr (5, [.int th3, .int ty, .ref e0, .ref e1, .ref e2, .ref e3, .ref e4, .int rk, .ref e5, .ref e6])), (e0, .inl (cyI, 40, .inl ro)), (e1, .inl (cyZ, 40, .inl rf)), (e2, .inl (cyI, 40, .inl re)), (e3, .inl (cyI, 120, .inl av)), (e4, .inl (cyZ, 1600, .inl un)), (e5, .inl (cyI, 60, .inl kp)), (e6, .inl (cyJ, 60, .inr (.inl bt))), (o0, .inl (cyJ, 1, .inr (.inl ow)))]) [0, 1, 2, 3, 4, 5, 6, 7, 9, 10, 11, 12, 13, 14, 15, 16, 8] rfl
  have hD := hD.sub (ws' := [(h2, .inr (4, [.ref h1, .ref b0, .ref b1, .int oc])), (h1, .inr (3, [.ref a0, .ref a1, .ref a2, .ref a3, .int sz])), (a0, .inl (cyI, 40, .inl so)), (a1, .inl (cyZ, 40, .inl fi)), (a2, .inl (cyI, 40, .inl el)), (a3, .inl (cyJ, 40, .inr (.inl ab))), (b0, .inl (cyI, 60, .inl ot)), (b1, .inl (cyJ, 60, .inr (.inl ob))), (h3, .inr (5, [.int th3, .int ty, .ref e0, .ref e1, .ref e2, .ref e3, .ref e4, .int rk, .ref e5, .ref e6])), (e0, .inl (cyI, 40, .inl ro)), (e1, .inl (cyZ, 40, .inl rf)), (e2, .inl (cyI, 40, .inl re)), (e3, .inl (cyI, 120, .inl av)), (e4, .inl (cyZ, 1600, .inl un)), (e5, .inl (cyI, 60, .inl kp)), (e6, .inl (cyJ, 60, .inr (.inl bt))), (o0, .inl (cyJ, 1, .inr (.inl ow)))]) [0, 1, 2, 3, 4, 5, 6, 7, 9, 10, 11, 12, 13, 14, 15, 16, 8] (by decide) rfl
  have hI : Inv (so, fi, el, ab, sz, ot, ob, oc) (th3, ro, rf, re, av, un, ty, kp, bt, rk) := hI
  refine mb_lc_eq (tgt := 933) hx hb dL_law_568 dL_law_569 (by decide) (fun c_1 => ?_) (fun c_1 => absurd hpe c_1)
  exact W.widen (by omega) (by omega) (K _ _ _ _ _ _ _ _ _ _ _ _ _ _ _ _ _ _ _ _ _ _ ⟨hP, hD, hS, hI⟩ hl)

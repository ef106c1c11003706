section
-- ===== PART A: goes FIRST, ahead of the names: the tables' words, and 'selects' of the private methods out of them =====
/-- a private method of a class that the tables say can be made, by its rows of tables_1 -/
def lw_okq (q : MethodName × Nat) : Prop := (q.1.cls ≠ "java/lang/invoke/MethodHandle" ∧ q.1.cls ≠ "java/lang/invoke/VarHandle") ∧ Cond.instantiable q.1.cls q.2 ∈ tables_1 ∧ Cond.privateMethod q.1 ∈ tables_1 ∧ Cond.instanceMethod q.1 ∈ tables_1
theorem lw_p0 : lw_okq (⟨"ConversionTables$TypeTable", "setKnown", "(IIZJ)V"⟩, 5) := ⟨⟨by decide +kernel, by decide +kernel⟩, List.mem_of_getElem? (i := 23) (by decide +kernel), List.mem_of_getElem? (i := 29) (by decide +kernel), List.mem_of_getElem? (i := 30) (by decide +kernel)⟩
theorem lw_p1 : lw_okq (⟨"ConversionTables", "isTypeOrNone", "(I)Z"⟩, 4) := ⟨⟨by decide +kernel, by decide +kernel⟩, List.mem_of_getElem? (i := 15) (by decide +kernel), List.mem_of_getElem? (i := 72) (by decide +kernel), List.mem_of_getElem? (i := 73) (by decide +kernel)⟩
theorem lw_p2 : lw_okq (⟨"ConversionTables", "isInterfaceOrNone", "(I)Z"⟩, 4) := ⟨⟨by decide +kernel, by decide +kernel⟩, List.mem_of_getElem? (i := 15) (by decide +kernel), List.mem_of_getElem? (i := 84) (by decide +kernel), List.mem_of_getElem? (i := 85) (by decide +kernel)⟩
theorem lw_p3 : lw_okq (⟨"ConversionTables$TypeTable", "aboveOrNothing", "(I)J"⟩, 5) := ⟨⟨by decide +kernel, by decide +kernel⟩, List.mem_of_getElem? (i := 23) (by decide +kernel), List.mem_of_getElem? (i := 100) (by decide +kernel), List.mem_of_getElem? (i := 101) (by decide +kernel)⟩
theorem lw_p4 : lw_okq (⟨"ConversionTables$TypeTable", "add", "(IZJ)I"⟩, 5) := ⟨⟨by decide +kernel, by decide +kernel⟩, List.mem_of_getElem? (i := 23) (by decide +kernel), List.mem_of_getElem? (i := 104) (by decide +kernel), List.mem_of_getElem? (i := 105) (by decide +kernel)⟩
theorem lw_p5 : lw_okq (⟨"ConversionTables$TypeTable", "placeArrays", "(II)V"⟩, 5) := ⟨⟨by decide +kernel, by decide +kernel⟩, List.mem_of_getElem? (i := 23) (by decide +kernel), List.mem_of_getElem? (i := 128) (by decide +kernel), List.mem_of_getElem? (i := 129) (by decide +kernel)⟩
theorem lw_p6 : lw_okq (⟨"ConversionTables", "allowedKind", "(III)I"⟩, 4) := ⟨⟨by decide +kernel, by decide +kernel⟩, List.mem_of_getElem? (i := 15) (by decide +kernel), List.mem_of_getElem? (i := 173) (by decide +kernel), List.mem_of_getElem? (i := 174) (by decide +kernel)⟩
theorem lw_p7 : lw_okq (⟨"ConversionTables", "stepsBetween", "(II)I"⟩, 4) := ⟨⟨by decide +kernel, by decide +kernel⟩, List.mem_of_getElem? (i := 15) (by decide +kernel), List.mem_of_getElem? (i := 180) (by decide +kernel), List.mem_of_getElem? (i := 181) (by decide +kernel)⟩
theorem lw_p8 : lw_okq (⟨"ConversionTables", "stepsByBoxing", "(II)I"⟩, 4) := ⟨⟨by decide +kernel, by decide +kernel⟩, List.mem_of_getElem? (i := 15) (by decide +kernel), List.mem_of_getElem? (i := 190) (by decide +kernel), List.mem_of_getElem? (i := 191) (by decide +kernel)⟩
theorem lw_p9 : lw_okq (⟨"ConversionTables", "stepsByUnboxing", "(II)I"⟩, 4) := ⟨⟨by decide +kernel, by decide +kernel⟩, List.mem_of_getElem? (i := 15) (by decide +kernel), List.mem_of_getElem? (i := 197) (by decide +kernel), List.mem_of_getElem? (i := 198) (by decide +kernel)⟩
theorem lw_p10 : lw_okq (⟨"ConversionTables$TypeTable", "isArrayOfReferences", "(I)Z"⟩, 5) := ⟨⟨by decide +kernel, by decide +kernel⟩, List.mem_of_getElem? (i := 23) (by decide +kernel), List.mem_of_getElem? (i := 208) (by decide +kernel), List.mem_of_getElem? (i := 209) (by decide +kernel)⟩
theorem lw_p11 : lw_okq (⟨"ConversionTables$TypeTable", "mayShareObjects", "(II)Z"⟩, 5) := ⟨⟨by decide +kernel, by decide +kernel⟩, List.mem_of_getElem? (i := 23) (by decide +kernel), List.mem_of_getElem? (i := 212) (by decide +kernel), List.mem_of_getElem? (i := 213) (by decide +kernel)⟩
theorem lw_p12 : lw_okq (⟨"ConversionTables$TypeTable", "isOpenClass", "(I)Z"⟩, 5) := ⟨⟨by decide +kernel, by decide +kernel⟩, List.mem_of_getElem? (i := 23) (by decide +kernel), List.mem_of_getElem? (i := 216) (by decide +kernel), List.mem_of_getElem? (i := 217) (by decide +kernel)⟩
theorem lw_p13 : lw_okq (⟨"ConversionTables", "stepBetweenReferences", "(II)I"⟩, 4) := ⟨⟨by decide +kernel, by decide +kernel⟩, List.mem_of_getElem? (i := 15) (by decide +kernel), List.mem_of_getElem? (i := 223) (by decide +kernel), List.mem_of_getElem? (i := 224) (by decide +kernel)⟩
theorem lw_p14 : lw_okq (⟨"ConversionTables$Format", "withoutSign", "(J)J"⟩, 8) := ⟨⟨by decide +kernel, by decide +kernel⟩, List.mem_of_getElem? (i := 279) (by decide +kernel), List.mem_of_getElem? (i := 277) (by decide +kernel), List.mem_of_getElem? (i := 278) (by decide +kernel)⟩
theorem lw_p15 : lw_okq (⟨"ConversionTables$Format", "significand", "(J)J"⟩, 8) := ⟨⟨by decide +kernel, by decide +kernel⟩, List.mem_of_getElem? (i := 279) (by decide +kernel), List.mem_of_getElem? (i := 283) (by decide +kernel), List.mem_of_getElem? (i := 284) (by decide +kernel)⟩
def lw_privs_1 : List (MethodName × Nat) := [(⟨"ConversionTables$TypeTable", "setKnown", "(IIZJ)V"⟩, 5), (⟨"ConversionTables", "isTypeOrNone", "(I)Z"⟩, 4), (⟨"ConversionTables", "isInterfaceOrNone", "(I)Z"⟩, 4), (⟨"ConversionTables$TypeTable", "aboveOrNothing", "(I)J"⟩, 5), (⟨"ConversionTables$TypeTable", "add", "(IZJ)I"⟩, 5), (⟨"ConversionTables$TypeTable", "placeArrays", "(II)V"⟩, 5), (⟨"ConversionTables", "allowedKind", "(III)I"⟩, 4), (⟨"ConversionTables", "stepsBetween", "(II)I"⟩, 4), (⟨"ConversionTables", "stepsByBoxing", "(II)I"⟩, 4), (⟨"ConversionTables", "stepsByUnboxing", "(II)I"⟩, 4), (⟨"ConversionTables$TypeTable", "isArrayOfReferences", "(I)Z"⟩, 5), (⟨"ConversionTables$TypeTable", "mayShareObjects", "(II)Z"⟩, 5), (⟨"ConversionTables$TypeTable", "isOpenClass", "(I)Z"⟩, 5), (⟨"ConversionTables", "stepBetweenReferences", "(II)I"⟩, 4), (⟨"ConversionTables$Format", "withoutSign", "(J)J"⟩, 8), (⟨"ConversionTables$Format", "significand", "(J)J"⟩, 8)]
theorem lw_r1 : ∀ q ∈ lw_privs_1, lw_okq q := List.forall_mem_cons.mpr ⟨lw_p0, List.forall_mem_cons.mpr ⟨lw_p1, List.forall_mem_cons.mpr ⟨lw_p2, List.forall_mem_cons.mpr ⟨lw_p3, List.forall_mem_cons.mpr ⟨lw_p4, List.forall_mem_cons.mpr ⟨lw_p5, List.forall_mem_cons.mpr ⟨lw_p6, List.forall_mem_cons.mpr ⟨lw_p7, List.forall_mem_cons.mpr ⟨lw_p8, List.forall_mem_cons.mpr ⟨lw_p9, List.forall_mem_cons.mpr ⟨lw_p10, List.forall_mem_cons.mpr ⟨lw_p11, List.forall_mem_cons.mpr ⟨lw_p12, List.forall_mem_cons.mpr ⟨lw_p13, List.forall_mem_cons.mpr ⟨lw_p14, List.forall_mem_cons.mpr ⟨lw_p15, fun _ h => absurd h List.not_mem_nil⟩⟩⟩⟩⟩⟩⟩⟩⟩⟩⟩⟩⟩⟩⟩⟩
theorem lw_p16 : lw_okq (⟨"ConversionTables$Format", "exponentField", "(J)J"⟩, 8) := ⟨⟨by decide +kernel, by decide +kernel⟩, List.mem_of_getElem? (i := 279) (by decide +kernel), List.mem_of_getElem? (i := 287) (by decide +kernel), List.mem_of_getElem? (i := 288) (by decide +kernel)⟩
theorem lw_p17 : lw_okq (⟨"ConversionTables$Format", "exponent", "(J)I"⟩, 8) := ⟨⟨by decide +kernel, by decide +kernel⟩, List.mem_of_getElem? (i := 279) (by decide +kernel), List.mem_of_getElem? (i := 291) (by decide +kernel), List.mem_of_getElem? (i := 292) (by decide +kernel)⟩
theorem lw_p18 : lw_okq (⟨"ConversionTables$Format", "nearest", "(JI)J"⟩, 8) := ⟨⟨by decide +kernel, by decide +kernel⟩, List.mem_of_getElem? (i := 279) (by decide +kernel), List.mem_of_getElem? (i := 327) (by decide +kernel), List.mem_of_getElem? (i := 328) (by decide +kernel)⟩
theorem lw_p19 : lw_okq (⟨"ConversionTables$Format", "withSign", "(ZJ)J"⟩, 8) := ⟨⟨by decide +kernel, by decide +kernel⟩, List.mem_of_getElem? (i := 279) (by decide +kernel), List.mem_of_getElem? (i := 338) (by decide +kernel), List.mem_of_getElem? (i := 339) (by decide +kernel)⟩
theorem lw_p20 : lw_okq (⟨"ConversionTables", "conditionalOfReferences", "(II)I"⟩, 4) := ⟨⟨by decide +kernel, by decide +kernel⟩, List.mem_of_getElem? (i := 15) (by decide +kernel), List.mem_of_getElem? (i := 365) (by decide +kernel), List.mem_of_getElem? (i := 366) (by decide +kernel)⟩
theorem lw_p21 : lw_okq (⟨"ConversionTables", "isFullOfObjects", "()Z"⟩, 4) := ⟨⟨by decide +kernel, by decide +kernel⟩, List.mem_of_getElem? (i := 15) (by decide +kernel), List.mem_of_getElem? (i := 373) (by decide +kernel), List.mem_of_getElem? (i := 374) (by decide +kernel)⟩
theorem lw_p22 : lw_okq (⟨"ConversionTables", "addObject", "(IJ)I"⟩, 4) := ⟨⟨by decide +kernel, by decide +kernel⟩, List.mem_of_getElem? (i := 15) (by decide +kernel), List.mem_of_getElem? (i := 380) (by decide +kernel), List.mem_of_getElem? (i := 381) (by decide +kernel)⟩
theorem lw_p23 : lw_okq (⟨"ConversionTables", "mayBeMade", "(I)Z"⟩, 4) := ⟨⟨by decide +kernel, by decide +kernel⟩, List.mem_of_getElem? (i := 15) (by decide +kernel), List.mem_of_getElem? (i := 388) (by decide +kernel), List.mem_of_getElem? (i := 389) (by decide +kernel)⟩
theorem lw_p24 : lw_okq (⟨"ConversionTables", "isObject", "(I)Z"⟩, 4) := ⟨⟨by decide +kernel, by decide +kernel⟩, List.mem_of_getElem? (i := 15) (by decide +kernel), List.mem_of_getElem? (i := 396) (by decide +kernel), List.mem_of_getElem? (i := 397) (by decide +kernel)⟩
theorem lw_p25 : lw_okq (⟨"java/lang/NullPointerException", "getExtendedNPEMessage", "()Ljava/lang/String;"⟩, 8) := ⟨⟨by decide +kernel, by decide +kernel⟩, List.mem_of_getElem? (i := 417) (by decide +kernel), List.mem_of_getElem? (i := 453) (by decide +kernel), List.mem_of_getElem? (i := 454) (by decide +kernel)⟩
theorem lw_p26 : lw_okq (⟨"java/lang/Throwable", "fillInStackTrace", "(I)Ljava/lang/Throwable;"⟩, 6) := ⟨⟨by decide +kernel, by decide +kernel⟩, List.mem_of_getElem? (i := 463) (by decide +kernel), List.mem_of_getElem? (i := 461) (by decide +kernel), List.mem_of_getElem? (i := 462) (by decide +kernel)⟩
theorem lw_p27 : lw_okq (⟨"ConversionTablesModel", "add", "(IZIIII)I"⟩, 10) := ⟨⟨by decide +kernel, by decide +kernel⟩, List.mem_of_getElem? (i := 509) (by decide +kernel), List.mem_of_getElem? (i := 515) (by decide +kernel), List.mem_of_getElem? (i := 516) (by decide +kernel)⟩
theorem lw_p28 : lw_okq (⟨"ConversionTablesModel", "fill", "()V"⟩, 10) := ⟨⟨by decide +kernel, by decide +kernel⟩, List.mem_of_getElem? (i := 509) (by decide +kernel), List.mem_of_getElem? (i := 519) (by decide +kernel), List.mem_of_getElem? (i := 520) (by decide +kernel)⟩
theorem lw_p29 : lw_okq (⟨"ConversionTablesModel", "comes", "(II)Z"⟩, 10) := ⟨⟨by decide +kernel, by decide +kernel⟩, List.mem_of_getElem? (i := 509) (by decide +kernel), List.mem_of_getElem? (i := 523) (by decide +kernel), List.mem_of_getElem? (i := 524) (by decide +kernel)⟩
theorem lw_p30 : lw_okq (⟨"ConversionTablesModel", "isReference", "(I)Z"⟩, 10) := ⟨⟨by decide +kernel, by decide +kernel⟩, List.mem_of_getElem? (i := 509) (by decide +kernel), List.mem_of_getElem? (i := 527) (by decide +kernel), List.mem_of_getElem? (i := 528) (by decide +kernel)⟩
theorem lw_p31 : lw_okq (⟨"ConversionTablesModel", "isType", "(I)Z"⟩, 10) := ⟨⟨by decide +kernel, by decide +kernel⟩, List.mem_of_getElem? (i := 509) (by decide +kernel), List.mem_of_getElem? (i := 570) (by decide +kernel), List.mem_of_getElem? (i := 571) (by decide +kernel)⟩
def lw_privs_2 : List (MethodName × Nat) := [(⟨"ConversionTables$Format", "exponentField", "(J)J"⟩, 8), (⟨"ConversionTables$Format", "exponent", "(J)I"⟩, 8), (⟨"ConversionTables$Format", "nearest", "(JI)J"⟩, 8), (⟨"ConversionTables$Format", "withSign", "(ZJ)J"⟩, 8), (⟨"ConversionTables", "conditionalOfReferences", "(II)I"⟩, 4), (⟨"ConversionTables", "isFullOfObjects", "()Z"⟩, 4), (⟨"ConversionTables", "addObject", "(IJ)I"⟩, 4), (⟨"ConversionTables", "mayBeMade", "(I)Z"⟩, 4), (⟨"ConversionTables", "isObject", "(I)Z"⟩, 4), (⟨"java/lang/NullPointerException", "getExtendedNPEMessage", "()Ljava/lang/String;"⟩, 8), (⟨"java/lang/Throwable", "fillInStackTrace", "(I)Ljava/lang/Throwable;"⟩, 6), (⟨"ConversionTablesModel", "add", "(IZIIII)I"⟩, 10), (⟨"ConversionTablesModel", "fill", "()V"⟩, 10), (⟨"ConversionTablesModel", "comes", "(II)Z"⟩, 10), (⟨"ConversionTablesModel", "isReference", "(I)Z"⟩, 10), (⟨"ConversionTablesModel", "isType", "(I)Z"⟩, 10)]
theorem lw_r2 : ∀ q ∈ lw_privs_2, lw_okq q := List.forall_mem_cons.mpr ⟨lw_p16, List.forall_mem_cons.mpr ⟨lw_p17, List.forall_mem_cons.mpr ⟨lw_p18, List.forall_mem_cons.mpr ⟨lw_p19, List.forall_mem_cons.mpr ⟨lw_p20, List.forall_mem_cons.mpr ⟨lw_p21, List.forall_mem_cons.mpr ⟨lw_p22, List.forall_mem_cons.mpr ⟨lw_p23, List.forall_mem_cons.mpr ⟨lw_p24, List.forall_mem_cons.mpr ⟨lw_p25, List.forall_mem_cons.mpr ⟨lw_p26, List.forall_mem_cons.mpr ⟨lw_p27, List.forall_mem_cons.mpr ⟨lw_p28, List.forall_mem_cons.mpr ⟨lw_p29, List.forall_mem_cons.mpr ⟨lw_p30, List.forall_mem_cons.mpr ⟨lw_p31, fun _ h => absurd h List.not_mem_nil⟩⟩⟩⟩⟩⟩⟩⟩⟩⟩⟩⟩⟩⟩⟩⟩
theorem lw_p32 : lw_okq (⟨"ConversionTablesModel", "isFace", "(I)Z"⟩, 10) := ⟨⟨by decide +kernel, by decide +kernel⟩, List.mem_of_getElem? (i := 509) (by decide +kernel), List.mem_of_getElem? (i := 577) (by decide +kernel), List.mem_of_getElem? (i := 578) (by decide +kernel)⟩
theorem lw_p33 : lw_okq (⟨"ConversionTablesModel", "kindOf", "(III)I"⟩, 10) := ⟨⟨by decide +kernel, by decide +kernel⟩, List.mem_of_getElem? (i := 509) (by decide +kernel), List.mem_of_getElem? (i := 601) (by decide +kernel), List.mem_of_getElem? (i := 602) (by decide +kernel)⟩
theorem lw_p34 : lw_okq (⟨"ConversionTablesModel", "leads", "(III)Z"⟩, 10) := ⟨⟨by decide +kernel, by decide +kernel⟩, List.mem_of_getElem? (i := 509) (by decide +kernel), List.mem_of_getElem? (i := 611) (by decide +kernel), List.mem_of_getElem? (i := 612) (by decide +kernel)⟩
theorem lw_p35 : lw_okq (⟨"ConversionTablesModel", "isUp", "(II)Z"⟩, 10) := ⟨⟨by decide +kernel, by decide +kernel⟩, List.mem_of_getElem? (i := 509) (by decide +kernel), List.mem_of_getElem? (i := 618) (by decide +kernel), List.mem_of_getElem? (i := 619) (by decide +kernel)⟩
theorem lw_p36 : lw_okq (⟨"ConversionTablesModel", "isDown", "(II)Z"⟩, 10) := ⟨⟨by decide +kernel, by decide +kernel⟩, List.mem_of_getElem? (i := 509) (by decide +kernel), List.mem_of_getElem? (i := 625) (by decide +kernel), List.mem_of_getElem? (i := 626) (by decide +kernel)⟩
theorem lw_p37 : lw_okq (⟨"ConversionTablesModel", "keep", "(IJ)I"⟩, 10) := ⟨⟨by decide +kernel, by decide +kernel⟩, List.mem_of_getElem? (i := 509) (by decide +kernel), List.mem_of_getElem? (i := 709) (by decide +kernel), List.mem_of_getElem? (i := 710) (by decide +kernel)⟩
theorem lw_p38 : lw_okq (⟨"ConversionTablesModel", "isObject", "(I)Z"⟩, 10) := ⟨⟨by decide +kernel, by decide +kernel⟩, List.mem_of_getElem? (i := 509) (by decide +kernel), List.mem_of_getElem? (i := 721) (by decide +kernel), List.mem_of_getElem? (i := 722) (by decide +kernel)⟩
def lw_privs_3 : List (MethodName × Nat) := [(⟨"ConversionTablesModel", "isFace", "(I)Z"⟩, 10), (⟨"ConversionTablesModel", "kindOf", "(III)I"⟩, 10), (⟨"ConversionTablesModel", "leads", "(III)Z"⟩, 10), (⟨"ConversionTablesModel", "isUp", "(II)Z"⟩, 10), (⟨"ConversionTablesModel", "isDown", "(II)Z"⟩, 10), (⟨"ConversionTablesModel", "keep", "(IJ)I"⟩, 10), (⟨"ConversionTablesModel", "isObject", "(I)Z"⟩, 10)]
theorem lw_r3 : ∀ q ∈ lw_privs_3, lw_okq q := List.forall_mem_cons.mpr ⟨lw_p32, List.forall_mem_cons.mpr ⟨lw_p33, List.forall_mem_cons.mpr ⟨lw_p34, List.forall_mem_cons.mpr ⟨lw_p35, List.forall_mem_cons.mpr ⟨lw_p36, List.forall_mem_cons.mpr ⟨lw_p37, List.forall_mem_cons.mpr ⟨lw_p38, fun _ h => absurd h List.not_mem_nil⟩⟩⟩⟩⟩⟩⟩
def lw_privs : List (MethodName × Nat) := lw_privs_1 ++ (lw_privs_2 ++ (lw_privs_3))
def lw_tbl : List Cond := k2_sels lw_privs ++ tables_1
theorem lw_privs_ok : ∀ q ∈ lw_privs, lw_okq q := by
  show ∀ q ∈ lw_privs_1 ++ (lw_privs_2 ++ (lw_privs_3)), lw_okq q
  exact List.forall_mem_append.mpr ⟨lw_r1, List.forall_mem_append.mpr ⟨lw_r2, lw_r3⟩⟩
end
section
/-! ===== BEGIN words of one list among another's, by their places ===== -/
theorem goodIn_r {big : List Cond} (ws : List Cond) (ps : List Nat) (hp : ws = ps.filterMap (fun i => big[i]?)) (h : ws.all goodWord = true) : GoodIn big ws := by
  intro w hw
  have h1 := List.all_eq_true.mp h w hw
  rw [hp] at hw
  obtain ⟨i, -, hi⟩ := List.mem_filterMap.mp hw
  have hm : w ∈ big := by first | exact List.mem_of_getElem? hi | exact List.getElem?_mem hi
  exact ⟨hm, good_of_word h1⟩
theorem goodIn_app {big a b : List Cond} (ha : GoodIn big a) (hb : GoodIn big b) : GoodIn big (a ++ b) := fun w h => (List.mem_append.mp h).elim (ha w) (hb w)
theorem goodIn_ca {big a b : List Cond} {c : Cond} (ha : GoodIn big (c :: a)) (hb : GoodIn big b) : GoodIn big (c :: (a ++ b)) := fun w h => (List.mem_cons.mp h).elim (fun e => ha w (List.mem_cons.mpr (Or.inl e))) (fun h => (List.mem_append.mp h).elim (fun h => ha w (List.mem_cons.mpr (Or.inr h))) (hb w))
theorem goodIn_sub {big ws : List Cond} (hm : ∀ w ∈ ws, w ∈ big) (h : ws.all goodWord = true) : GoodIn big ws := fun w hw => ⟨hm w hw, good_of_word (List.all_eq_true.mp h w hw)⟩
/-! ===== END ===== -/

def vx_no (w : Cond) : Bool := decide (w ≠ .isRef (.static Bundle.tN "UNASSIGNED_STACK" Bundle.steD)) && decide (w ≠ .isRef (.static Bundle.tN "SUPPRESSED_SENTINEL" Bundle.listD)) && decide (w ≠ .laysStatic Bundle.tN "UNASSIGNED_STACK" Bundle.steD) && decide (w ≠ .laysStatic Bundle.tN "SUPPRESSED_SENTINEL" Bundle.listD)
def vx_atN (n : Nat) : List Cond := (Bundle.npeArmAtoms n).filter vx_no
end
section
/-! ===== BEGIN printed: names, fields, word lists, decode rows ===== -/
def RX0 : String := "ConversionTables$Format"
def TX0 : u_T := fun k => match k with
  | _ => ("", "", "", false)
def tyX0 : Nat → FieldType := fun k => match k with
  | _ => .int
abbrev wsX00 : List Cond := u_ws RX0 TX0 0
theorem nmX0 : ∀ a, a < 0 → ∀ b, b < 0 → a ≠ b → (TX0 a).2.1 ≠ (TX0 b).2.1 := by decide +kernel
theorem tyX0_ok : ∀ k, k < 0 → parseFieldDescriptor (TX0 k).2.2.1 = some (tyX0 k) := by decide +kernel
abbrev cX0_withoutSign : ByteArray := prog_2_method_4_code
def yX0_withoutSign : MethodName := ⟨RX0, "withoutSign", "(J)J"⟩
abbrev cX0_withSign : ByteArray := prog_2_method_5_code
def yX0_withSign : MethodName := ⟨RX0, "withSign", "(ZJ)J"⟩
abbrev cX0_exponentField : ByteArray := prog_2_method_6_code
def yX0_exponentField : MethodName := ⟨RX0, "exponentField", "(J)J"⟩
abbrev cX0_significand : ByteArray := prog_2_method_7_code
def yX0_significand : MethodName := ⟨RX0, "significand", "(J)J"⟩
abbrev cX0_exponent : ByteArray := prog_2_method_8_code
def yX0_exponent : MethodName := ⟨RX0, "exponent", "(J)I"⟩
abbrev cX0_fromLong : ByteArray := prog_2_method_9_code
def yX0_fromLong : MethodName := ⟨RX0, "fromLong", "(J)J"⟩
abbrev cX0_fromFormat : ByteArray := prog_2_method_10_code
def yX0_fromFormat : MethodName := ⟨RX0, "fromFormat", "(LConversionTables$Format;J)J"⟩
abbrev cX0_toLong : ByteArray := prog_2_method_11_code
def yX0_toLong : MethodName := ⟨RX0, "toLong", "(J)J"⟩
abbrev cX0_widthOf : ByteArray := prog_2_method_12_code
def yX0_widthOf : MethodName := ⟨RX0, "widthOf", "(J)I"⟩
abbrev cX0_shifted : ByteArray := prog_2_method_13_code
def yX0_shifted : MethodName := ⟨RX0, "shifted", "(JI)J"⟩
abbrev cX0_nearest : ByteArray := prog_2_method_14_code
def yX0_nearest : MethodName := ⟨RX0, "nearest", "(JI)J"⟩
abbrev cX0_rounded : ByteArray := prog_2_method_15_code
def yX0_rounded : MethodName := ⟨RX0, "rounded", "(JI)J"⟩
def RX1 : String := "ConversionTables$TypeTable"
def TX1 : u_T := fun k => match k with
  | 0 => ("ConversionTables$TypeTable", "sorts", "[I", true)
  | 1 => ("ConversionTables$TypeTable", "finals", "[Z", true)
  | 2 => ("ConversionTables$TypeTable", "elements", "[I", true)
  | 3 => ("ConversionTables$TypeTable", "aboves", "[J", true)
  | _ => ("ConversionTables$TypeTable", "size", "I", false)
def tyX1 : Nat → FieldType := fun k => match k with
  | 0 => .array .int
  | 1 => .array .boolean
  | 2 => .array .int
  | 3 => .array .long
  | _ => .int
abbrev wsX10 : List Cond := u_ws RX1 TX1 5
theorem nmX1 : ∀ a, a < 5 → ∀ b, b < 5 → a ≠ b → (TX1 a).2.1 ≠ (TX1 b).2.1 := by decide +kernel
theorem tyX1_ok : ∀ k, k < 5 → parseFieldDescriptor (TX1 k).2.2.1 = some (tyX1 k) := by decide +kernel
abbrev cX1_init : ByteArray := prog_3_method_1_code
def yX1_init : MethodName := ⟨RX1, "<init>", "()V"⟩
abbrev cX1_setKnown : ByteArray := prog_3_method_2_code
def yX1_setKnown : MethodName := ⟨RX1, "setKnown", "(IIZJ)V"⟩
abbrev cX1_bit : ByteArray := prog_3_method_3_code
def yX1_bit : MethodName := ⟨RX1, "bit", "(I)J"⟩
abbrev cX1_size : ByteArray := prog_3_method_4_code
def yX1_size : MethodName := ⟨RX1, "size", "()I"⟩
abbrev cX1_isFull : ByteArray := prog_3_method_5_code
def yX1_isFull : MethodName := ⟨RX1, "isFull", "()Z"⟩
abbrev cX1_has : ByteArray := prog_3_method_6_code
def yX1_has : MethodName := ⟨RX1, "has", "(I)Z"⟩
abbrev cX1_sortOf : ByteArray := prog_3_method_7_code
def yX1_sortOf : MethodName := ⟨RX1, "sortOf", "(I)I"⟩
abbrev cX1_isFinal : ByteArray := prog_3_method_8_code
def yX1_isFinal : MethodName := ⟨RX1, "isFinal", "(I)Z"⟩
abbrev cX1_elementOf : ByteArray := prog_3_method_9_code
def yX1_elementOf : MethodName := ⟨RX1, "elementOf", "(I)I"⟩
abbrev cX1_countAbove : ByteArray := prog_3_method_10_code
def yX1_countAbove : MethodName := ⟨RX1, "countAbove", "(I)I"⟩
abbrev cX1_isUnder : ByteArray := prog_3_method_11_code
def yX1_isUnder : MethodName := ⟨RX1, "isUnder", "(II)Z"⟩
abbrev cX1_mayHaveSubclass : ByteArray := prog_3_method_12_code
def yX1_mayHaveSubclass : MethodName := ⟨RX1, "mayHaveSubclass", "(I)Z"⟩
abbrev cX1_arrayOf : ByteArray := prog_3_method_13_code
def yX1_arrayOf : MethodName := ⟨RX1, "arrayOf", "(I)I"⟩
abbrev cX1_addClass : ByteArray := prog_3_method_14_code
def yX1_addClass : MethodName := ⟨RX1, "addClass", "(IIZ)I"⟩
abbrev cX1_addInterface : ByteArray := prog_3_method_15_code
def yX1_addInterface : MethodName := ⟨RX1, "addInterface", "(II)I"⟩
abbrev cX1_addArray : ByteArray := prog_3_method_16_code
def yX1_addArray : MethodName := ⟨RX1, "addArray", "(I)I"⟩
abbrev cX1_placeArrays : ByteArray := prog_3_method_17_code
def yX1_placeArrays : MethodName := ⟨RX1, "placeArrays", "(II)V"⟩
abbrev cX1_add : ByteArray := prog_3_method_18_code
def yX1_add : MethodName := ⟨RX1, "add", "(IZJ)I"⟩
abbrev cX1_aboveOrNothing : ByteArray := prog_3_method_19_code
def yX1_aboveOrNothing : MethodName := ⟨RX1, "aboveOrNothing", "(I)J"⟩
abbrev cX1_goesDown : ByteArray := prog_3_method_20_code
def yX1_goesDown : MethodName := ⟨RX1, "goesDown", "(II)Z"⟩
abbrev cX1_isArrayOfReferences : ByteArray := prog_3_method_21_code
def yX1_isArrayOfReferences : MethodName := ⟨RX1, "isArrayOfReferences", "(I)Z"⟩
abbrev cX1_mayShareObjects : ByteArray := prog_3_method_22_code
def yX1_mayShareObjects : MethodName := ⟨RX1, "mayShareObjects", "(II)Z"⟩
abbrev cX1_isOpenClass : ByteArray := prog_3_method_23_code
def yX1_isOpenClass : MethodName := ⟨RX1, "isOpenClass", "(I)Z"⟩
def RX2 : String := "ConversionTables"
def TX2 : u_T := fun k => match k with
  | 0 => ("ConversionTables", "types", "LConversionTables$TypeTable;", true)
  | 1 => ("ConversionTables", "objectTypes", "[I", true)
  | 2 => ("ConversionTables", "objectBits", "[J", true)
  | _ => ("ConversionTables", "objectCount", "I", false)
def tyX2 : Nat → FieldType := fun k => match k with
  | 0 => .object "ConversionTables$TypeTable"
  | 1 => .array .int
  | 2 => .array .long
  | _ => .int
abbrev wsX20 : List Cond := u_ws RX2 TX2 4
theorem nmX2 : ∀ a, a < 4 → ∀ b, b < 4 → a ≠ b → (TX2 a).2.1 ≠ (TX2 b).2.1 := by decide +kernel
theorem tyX2_ok : ∀ k, k < 4 → parseFieldDescriptor (TX2 k).2.2.1 = some (tyX2 k) := by decide +kernel
abbrev cX2_init : ByteArray := prog_1_method_1_code
def yX2_init : MethodName := ⟨RX2, "<init>", "()V"⟩
abbrev cX2_newClass : ByteArray := prog_1_method_2_code
def yX2_newClass : MethodName := ⟨RX2, "newClass", "(IIZ)I"⟩
abbrev cX2_newInterface : ByteArray := prog_1_method_3_code
def yX2_newInterface : MethodName := ⟨RX2, "newInterface", "(II)I"⟩
abbrev cX2_array : ByteArray := prog_1_method_4_code
def yX2_array : MethodName := ⟨RX2, "array", "(I)I"⟩
abbrev cX2_type : ByteArray := prog_1_method_5_code
def yX2_type : MethodName := ⟨RX2, "type", "(II)I"⟩
abbrev cX2_under : ByteArray := prog_1_method_6_code
def yX2_under : MethodName := ⟨RX2, "under", "(II)I"⟩
abbrev cX2_isTypeOrNone : ByteArray := prog_1_method_7_code
def yX2_isTypeOrNone : MethodName := ⟨RX2, "isTypeOrNone", "(I)Z"⟩
abbrev cX2_isInterfaceOrNone : ByteArray := prog_1_method_8_code
def yX2_isInterfaceOrNone : MethodName := ⟨RX2, "isInterfaceOrNone", "(I)Z"⟩
abbrev cX2_kind : ByteArray := prog_1_method_9_code
def yX2_kind : MethodName := ⟨RX2, "kind", "(III)I"⟩
abbrev cX2_given : ByteArray := prog_1_method_10_code
def yX2_given : MethodName := ⟨RX2, "given", "(JII)I"⟩
abbrev cX2_targets : ByteArray := prog_1_method_11_code
def yX2_targets : MethodName := ⟨RX2, "targets", "(II)I"⟩
abbrev cX2_turned : ByteArray := prog_1_method_12_code
def yX2_turned : MethodName := ⟨RX2, "turned", "(IJI)J"⟩
abbrev cX2_promoted : ByteArray := prog_1_method_13_code
def yX2_promoted : MethodName := ⟨RX2, "promoted", "(I)I"⟩
abbrev cX2_both : ByteArray := prog_1_method_14_code
def yX2_both : MethodName := ⟨RX2, "both", "(II)I"⟩
abbrev cX2_conditional : ByteArray := prog_1_method_15_code
def yX2_conditional : MethodName := ⟨RX2, "conditional", "(II)I"⟩
abbrev cX2_isPrimitive : ByteArray := prog_1_method_16_code
def yX2_isPrimitive : MethodName := ⟨RX2, "isPrimitive", "(I)Z"⟩
abbrev cX2_isNumber : ByteArray := prog_1_method_17_code
def yX2_isNumber : MethodName := ⟨RX2, "isNumber", "(I)Z"⟩
abbrev cX2_isWhole : ByteArray := prog_1_method_18_code
def yX2_isWhole : MethodName := ⟨RX2, "isWhole", "(I)Z"⟩
abbrev cX2_isBox : ByteArray := prog_1_method_19_code
def yX2_isBox : MethodName := ⟨RX2, "isBox", "(I)Z"⟩
abbrev cX2_boxed : ByteArray := prog_1_method_20_code
def yX2_boxed : MethodName := ⟨RX2, "boxed", "(I)I"⟩
abbrev cX2_withoutBox : ByteArray := prog_1_method_21_code
def yX2_withoutBox : MethodName := ⟨RX2, "withoutBox", "(I)I"⟩
abbrev cX2_isContext : ByteArray := prog_1_method_22_code
def yX2_isContext : MethodName := ⟨RX2, "isContext", "(I)Z"⟩
abbrev cX2_allowedKind : ByteArray := prog_1_method_23_code
def yX2_allowedKind : MethodName := ⟨RX2, "allowedKind", "(III)I"⟩
abbrev cX2_stepsBetween : ByteArray := prog_1_method_24_code
def yX2_stepsBetween : MethodName := ⟨RX2, "stepsBetween", "(II)I"⟩
abbrev cX2_stepBetweenPrimitives : ByteArray := prog_1_method_25_code
def yX2_stepBetweenPrimitives : MethodName := ⟨RX2, "stepBetweenPrimitives", "(II)I"⟩
abbrev cX2_isWider : ByteArray := prog_1_method_26_code
def yX2_isWider : MethodName := ⟨RX2, "isWider", "(II)Z"⟩
abbrev cX2_stepsByBoxing : ByteArray := prog_1_method_27_code
def yX2_stepsByBoxing : MethodName := ⟨RX2, "stepsByBoxing", "(II)I"⟩
abbrev cX2_stepsByUnboxing : ByteArray := prog_1_method_28_code
def yX2_stepsByUnboxing : MethodName := ⟨RX2, "stepsByUnboxing", "(II)I"⟩
abbrev cX2_stepBetweenReferences : ByteArray := prog_1_method_29_code
def yX2_stepBetweenReferences : MethodName := ⟨RX2, "stepBetweenReferences", "(II)I"⟩
abbrev cX2_constantFits : ByteArray := prog_1_method_30_code
def yX2_constantFits : MethodName := ⟨RX2, "constantFits", "(JII)Z"⟩
abbrev cX2_areBitsOf : ByteArray := prog_1_method_31_code
def yX2_areBitsOf : MethodName := ⟨RX2, "areBitsOf", "(JI)Z"⟩
abbrev cX2_formatOf : ByteArray := prog_1_method_32_code
def yX2_formatOf : MethodName := ⟨RX2, "formatOf", "(I)LConversionTables$Format;"⟩
abbrev cX2_turnedToFloating : ByteArray := prog_1_method_33_code
def yX2_turnedToFloating : MethodName := ⟨RX2, "turnedToFloating", "(IJI)J"⟩
abbrev cX2_turnedToWhole : ByteArray := prog_1_method_34_code
def yX2_turnedToWhole : MethodName := ⟨RX2, "turnedToWhole", "(IJI)J"⟩
abbrev cX2_nearestInt : ByteArray := prog_1_method_35_code
def yX2_nearestInt : MethodName := ⟨RX2, "nearestInt", "(J)J"⟩
abbrev cX2_lowestBits : ByteArray := prog_1_method_36_code
def yX2_lowestBits : MethodName := ⟨RX2, "lowestBits", "(JI)J"⟩
abbrev cX2_promotedOfTwo : ByteArray := prog_1_method_37_code
def yX2_promotedOfTwo : MethodName := ⟨RX2, "promotedOfTwo", "(II)I"⟩
abbrev cX2_isByteAndShort : ByteArray := prog_1_method_38_code
def yX2_isByteAndShort : MethodName := ⟨RX2, "isByteAndShort", "(II)Z"⟩
abbrev cX2_conditionalOfReferences : ByteArray := prog_1_method_39_code
def yX2_conditionalOfReferences : MethodName := ⟨RX2, "conditionalOfReferences", "(II)I"⟩
abbrev cX2_box : ByteArray := prog_1_method_40_code
def yX2_box : MethodName := ⟨RX2, "box", "(IJ)I"⟩
abbrev cX2_make : ByteArray := prog_1_method_41_code
def yX2_make : MethodName := ⟨RX2, "make", "(I)I"⟩
abbrev cX2_typeOf : ByteArray := prog_1_method_42_code
def yX2_typeOf : MethodName := ⟨RX2, "typeOf", "(I)I"⟩
abbrev cX2_unboxed : ByteArray := prog_1_method_43_code
def yX2_unboxed : MethodName := ⟨RX2, "unboxed", "(II)J"⟩
abbrev cX2_cast : ByteArray := prog_1_method_44_code
def yX2_cast : MethodName := ⟨RX2, "cast", "(III)I"⟩
abbrev cX2_count : ByteArray := prog_1_method_45_code
def yX2_count : MethodName := ⟨RX2, "count", "(I)I"⟩
abbrev cX2_isObject : ByteArray := prog_1_method_46_code
def yX2_isObject : MethodName := ⟨RX2, "isObject", "(I)Z"⟩
abbrev cX2_isFullOfObjects : ByteArray := prog_1_method_47_code
def yX2_isFullOfObjects : MethodName := ⟨RX2, "isFullOfObjects", "()Z"⟩
abbrev cX2_mayBeMade : ByteArray := prog_1_method_48_code
def yX2_mayBeMade : MethodName := ⟨RX2, "mayBeMade", "(I)Z"⟩
abbrev cX2_addObject : ByteArray := prog_1_method_49_code
def yX2_addObject : MethodName := ⟨RX2, "addObject", "(IJ)I"⟩
abbrev cX2_withOneNaN : ByteArray := prog_1_method_50_code
def yX2_withOneNaN : MethodName := ⟨RX2, "withOneNaN", "(IJ)J"⟩
def RX3 : String := "ConversionTablesModel"
def TX3 : u_T := fun k => match k with
  | 0 => ("ConversionTablesModel", "thrown", "I", false)
  | 1 => ("ConversionTablesModel", "types", "I", false)
  | 2 => ("ConversionTablesModel", "sort", "[I", true)
  | 3 => ("ConversionTablesModel", "isFinal", "[Z", true)
  | 4 => ("ConversionTablesModel", "elements", "[I", true)
  | 5 => ("ConversionTablesModel", "above", "[I", true)
  | 6 => ("ConversionTablesModel", "under", "[Z", true)
  | 7 => ("ConversionTablesModel", "objects", "I", false)
  | 8 => ("ConversionTablesModel", "kept", "[I", true)
  | _ => ("ConversionTablesModel", "bits", "[J", true)
def tyX3 : Nat → FieldType := fun k => match k with
  | 0 => .int
  | 1 => .int
  | 2 => .array .int
  | 3 => .array .boolean
  | 4 => .array .int
  | 5 => .array .int
  | 6 => .array .boolean
  | 7 => .int
  | 8 => .array .int
  | _ => .array .long
abbrev wsX30 : List Cond := u_ws RX3 TX3 10
theorem nmX3 : ∀ a, a < 10 → ∀ b, b < 10 → a ≠ b → (TX3 a).2.1 ≠ (TX3 b).2.1 := by decide +kernel
theorem tyX3_ok : ∀ k, k < 10 → parseFieldDescriptor (TX3 k).2.2.1 = some (tyX3 k) := by decide +kernel
abbrev cX3_init : ByteArray := prog_5_method_1_code
def yX3_init : MethodName := ⟨RX3, "<init>", "()V"⟩
abbrev cX3_thrown : ByteArray := prog_5_method_2_code
def yX3_thrown : MethodName := ⟨RX3, "thrown", "()I"⟩
abbrev cX3_in : ByteArray := prog_5_method_3_code
def yX3_in : MethodName := ⟨RX3, "in", "(III)Z"⟩
abbrev cX3_isType : ByteArray := prog_5_method_4_code
def yX3_isType : MethodName := ⟨RX3, "isType", "(I)Z"⟩
abbrev cX3_isNumber : ByteArray := prog_5_method_5_code
def yX3_isNumber : MethodName := ⟨RX3, "isNumber", "(I)Z"⟩
abbrev cX3_isBox : ByteArray := prog_5_method_6_code
def yX3_isBox : MethodName := ⟨RX3, "isBox", "(I)Z"⟩
abbrev cX3_isReference : ByteArray := prog_5_method_7_code
def yX3_isReference : MethodName := ⟨RX3, "isReference", "(I)Z"⟩
abbrev cX3_add : ByteArray := prog_5_method_8_code
def yX3_add : MethodName := ⟨RX3, "add", "(IZIIII)I"⟩
abbrev cX3_fill : ByteArray := prog_5_method_9_code
def yX3_fill : MethodName := ⟨RX3, "fill", "()V"⟩
abbrev cX3_comes : ByteArray := prog_5_method_10_code
def yX3_comes : MethodName := ⟨RX3, "comes", "(II)Z"⟩
abbrev cX3_isFace : ByteArray := prog_5_method_11_code
def yX3_isFace : MethodName := ⟨RX3, "isFace", "(I)Z"⟩
abbrev cX3_newClass : ByteArray := prog_5_method_12_code
def yX3_newClass : MethodName := ⟨RX3, "newClass", "(IIZ)I"⟩
abbrev cX3_newInterface : ByteArray := prog_5_method_13_code
def yX3_newInterface : MethodName := ⟨RX3, "newInterface", "(II)I"⟩
abbrev cX3_array : ByteArray := prog_5_method_14_code
def yX3_array : MethodName := ⟨RX3, "array", "(I)I"⟩
abbrev cX3_type : ByteArray := prog_5_method_15_code
def yX3_type : MethodName := ⟨RX3, "type", "(II)I"⟩
abbrev cX3_under : ByteArray := prog_5_method_16_code
def yX3_under : MethodName := ⟨RX3, "under", "(II)I"⟩
abbrev cX3_isWider : ByteArray := prog_5_method_17_code
def yX3_isWider : MethodName := ⟨RX3, "isWider", "(II)Z"⟩
abbrev cX3_isUp : ByteArray := prog_5_method_18_code
def yX3_isUp : MethodName := ⟨RX3, "isUp", "(II)Z"⟩
abbrev cX3_isDown : ByteArray := prog_5_method_19_code
def yX3_isDown : MethodName := ⟨RX3, "isDown", "(II)Z"⟩
abbrev cX3_leads : ByteArray := prog_5_method_20_code
def yX3_leads : MethodName := ⟨RX3, "leads", "(III)Z"⟩
abbrev cX3_isAllowed : ByteArray := prog_5_method_21_code
def yX3_isAllowed : MethodName := ⟨RX3, "isAllowed", "(III)Z"⟩
abbrev cX3_kindOf : ByteArray := prog_5_method_22_code
def yX3_kindOf : MethodName := ⟨RX3, "kindOf", "(III)I"⟩
abbrev cX3_kind : ByteArray := prog_5_method_23_code
def yX3_kind : MethodName := ⟨RX3, "kind", "(III)I"⟩
abbrev cX3_has : ByteArray := prog_5_method_24_code
def yX3_has : MethodName := ⟨RX3, "has", "(IJ)Z"⟩
abbrev cX3_given : ByteArray := prog_5_method_25_code
def yX3_given : MethodName := ⟨RX3, "given", "(JII)I"⟩
abbrev cX3_targets : ByteArray := prog_5_method_26_code
def yX3_targets : MethodName := ⟨RX3, "targets", "(II)I"⟩
abbrev cX3_isBits : ByteArray := prog_5_method_27_code
def yX3_isBits : MethodName := ⟨RX3, "isBits", "(IJ)Z"⟩
abbrev cX3_one : ByteArray := prog_5_method_28_code
def yX3_one : MethodName := ⟨RX3, "one", "(IJ)J"⟩
abbrev cX3_real : ByteArray := prog_5_method_29_code
def yX3_real : MethodName := ⟨RX3, "real", "(JIIJ)J"⟩
abbrev cX3_wide : ByteArray := prog_5_method_30_code
def yX3_wide : MethodName := ⟨RX3, "wide", "(J)J"⟩
abbrev cX3_narrow : ByteArray := prog_5_method_31_code
def yX3_narrow : MethodName := ⟨RX3, "narrow", "(J)J"⟩
abbrev cX3_whole : ByteArray := prog_5_method_32_code
def yX3_whole : MethodName := ⟨RX3, "whole", "(JJJ)J"⟩
abbrev cX3_cutTo : ByteArray := prog_5_method_33_code
def yX3_cutTo : MethodName := ⟨RX3, "cutTo", "(IJ)J"⟩
abbrev cX3_turned : ByteArray := prog_5_method_34_code
def yX3_turned : MethodName := ⟨RX3, "turned", "(IJI)J"⟩
abbrev cX3_numberOf : ByteArray := prog_5_method_35_code
def yX3_numberOf : MethodName := ⟨RX3, "numberOf", "(I)I"⟩
abbrev cX3_promotedOf : ByteArray := prog_5_method_36_code
def yX3_promotedOf : MethodName := ⟨RX3, "promotedOf", "(I)I"⟩
abbrev cX3_bothOf : ByteArray := prog_5_method_37_code
def yX3_bothOf : MethodName := ⟨RX3, "bothOf", "(II)I"⟩
abbrev cX3_promoted : ByteArray := prog_5_method_38_code
def yX3_promoted : MethodName := ⟨RX3, "promoted", "(I)I"⟩
abbrev cX3_both : ByteArray := prog_5_method_39_code
def yX3_both : MethodName := ⟨RX3, "both", "(II)I"⟩
abbrev cX3_conditional : ByteArray := prog_5_method_40_code
def yX3_conditional : MethodName := ⟨RX3, "conditional", "(II)I"⟩
abbrev cX3_isObject : ByteArray := prog_5_method_41_code
def yX3_isObject : MethodName := ⟨RX3, "isObject", "(I)Z"⟩
abbrev cX3_keep : ByteArray := prog_5_method_42_code
def yX3_keep : MethodName := ⟨RX3, "keep", "(IJ)I"⟩
abbrev cX3_box : ByteArray := prog_5_method_43_code
def yX3_box : MethodName := ⟨RX3, "box", "(IJ)I"⟩
abbrev cX3_make : ByteArray := prog_5_method_44_code
def yX3_make : MethodName := ⟨RX3, "make", "(I)I"⟩
abbrev cX3_typeOf : ByteArray := prog_5_method_45_code
def yX3_typeOf : MethodName := ⟨RX3, "typeOf", "(I)I"⟩
abbrev cX3_unboxed : ByteArray := prog_5_method_46_code
def yX3_unboxed : MethodName := ⟨RX3, "unboxed", "(II)J"⟩
abbrev cX3_cast : ByteArray := prog_5_method_47_code
def yX3_cast : MethodName := ⟨RX3, "cast", "(III)I"⟩
abbrev cX3_count : ByteArray := prog_5_method_48_code
def yX3_count : MethodName := ⟨RX3, "count", "(I)I"⟩
def RJx3273f : String := "java/lang/ClassCastException"
def TJx3273f : u_T := fun k => match k with
  | 0 => ("java/lang/Throwable", "cause", "Ljava/lang/Throwable;", false)
  | 1 => ("java/lang/Throwable", "stackTrace", "[Ljava/lang/StackTraceElement;", false)
  | 2 => ("java/lang/Throwable", "suppressedExceptions", "Ljava/util/List;", false)
  | 3 => ("java/lang/Throwable", "detailMessage", "Ljava/lang/String;", false)
  | 4 => ("java/lang/Throwable", "backtrace", "Ljava/lang/Object;", false)
  | _ => ("java/lang/Throwable", "depth", "I", false)
def tyJx3273f : Nat → FieldType := fun k => match k with
  | 0 => .object "java/lang/Throwable"
  | 1 => .array (.object "java/lang/StackTraceElement")
  | 2 => .object "java/util/List"
  | 3 => .object "java/lang/String"
  | 4 => .object "java/lang/Object"
  | _ => .int
abbrev wsJx3273f0 : List Cond := u_ws RJx3273f TJx3273f 6
theorem nmJx3273f : ∀ a, a < 6 → ∀ b, b < 6 → a ≠ b → (TJx3273f a).2.1 ≠ (TJx3273f b).2.1 := by decide +kernel
theorem tyJx3273f_ok : ∀ k, k < 6 → parseFieldDescriptor (TJx3273f k).2.2.1 = some (tyJx3273f k) := by decide +kernel
abbrev cJx3273f_init_da8c8 : ByteArray := prog_6_method_1_code
def yJx3273f_init_da8c8 : MethodName := ⟨RJx3273f, "<init>", "()V"⟩
def RJx29ce0 : String := "java/lang/Enum"
def TJx29ce0 : u_T := fun k => match k with
  | _ => ("", "", "", false)
def tyJx29ce0 : Nat → FieldType := fun k => match k with
  | _ => .int
abbrev wsJx29ce00 : List Cond := u_ws RJx29ce0 TJx29ce0 0
theorem nmJx29ce0 : ∀ a, a < 0 → ∀ b, b < 0 → a ≠ b → (TJx29ce0 a).2.1 ≠ (TJx29ce0 b).2.1 := by decide +kernel
theorem tyJx29ce0_ok : ∀ k, k < 0 → parseFieldDescriptor (TJx29ce0 k).2.2.1 = some (tyJx29ce0 k) := by decide +kernel
def RJ6 : String := "java/lang/Integer"
def TJ6 : u_T := fun k => match k with
  | _ => ("", "", "", false)
def tyJ6 : Nat → FieldType := fun k => match k with
  | _ => .int
abbrev wsJ60 : List Cond := u_ws RJ6 TJ6 0
theorem nmJ6 : ∀ a, a < 0 → ∀ b, b < 0 → a ≠ b → (TJ6 a).2.1 ≠ (TJ6 b).2.1 := by decide +kernel
theorem tyJ6_ok : ∀ k, k < 0 → parseFieldDescriptor (TJ6 k).2.2.1 = some (tyJ6 k) := by decide +kernel
abbrev cJ6_numberOfLeadingZeros_0f7a4 : ByteArray := prog_9_method_47_code
def yJ6_numberOfLeadingZeros_0f7a4 : MethodName := ⟨RJ6, "numberOfLeadingZeros", "(I)I"⟩
def RJ13 : String := "java/lang/Long"
def TJ13 : u_T := fun k => match k with
  | _ => ("", "", "", false)
def tyJ13 : Nat → FieldType := fun k => match k with
  | _ => .int
abbrev wsJ130 : List Cond := u_ws RJ13 TJ13 0
theorem nmJ13 : ∀ a, a < 0 → ∀ b, b < 0 → a ≠ b → (TJ13 a).2.1 ≠ (TJ13 b).2.1 := by decide +kernel
theorem tyJ13_ok : ∀ k, k < 0 → parseFieldDescriptor (TJ13 k).2.2.1 = some (tyJ13 k) := by decide +kernel
abbrev cJ13_numberOfLeadingZeros_95d88 : ByteArray := prog_10_method_48_code
def yJ13_numberOfLeadingZeros_95d88 : MethodName := ⟨RJ13, "numberOfLeadingZeros", "(J)I"⟩
abbrev cJ13_bitCount_95d88 : ByteArray := prog_10_method_50_code
def yJ13_bitCount_95d88 : MethodName := ⟨RJ13, "bitCount", "(J)I"⟩
def RJ9 : String := "java/lang/Math"
def TJ9 : u_T := fun k => match k with
  | _ => ("", "", "", false)
def tyJ9 : Nat → FieldType := fun k => match k with
  | _ => .int
abbrev wsJ90 : List Cond := u_ws RJ9 TJ9 0
theorem nmJ9 : ∀ a, a < 0 → ∀ b, b < 0 → a ≠ b → (TJ9 a).2.1 ≠ (TJ9 b).2.1 := by decide +kernel
theorem tyJ9_ok : ∀ k, k < 0 → parseFieldDescriptor (TJ9 k).2.2.1 = some (tyJ9 k) := by decide +kernel
abbrev cJ9_max_7cf53 : ByteArray := prog_11_method_65_code
def yJ9_max_7cf53 : MethodName := ⟨RJ9, "max", "(II)I"⟩
abbrev cJ9_max_f86c9 : ByteArray := prog_11_method_66_code
def yJ9_max_f86c9 : MethodName := ⟨RJ9, "max", "(JJ)J"⟩
abbrev cJ9_min_f86c9 : ByteArray := prog_11_method_70_code
def yJ9_min_f86c9 : MethodName := ⟨RJ9, "min", "(JJ)J"⟩
def RJx5d777 : String := "java/lang/NullPointerException"
def TJx5d777 : u_T := fun k => match k with
  | 0 => ("java/lang/Throwable", "cause", "Ljava/lang/Throwable;", false)
  | 1 => ("java/lang/Throwable", "stackTrace", "[Ljava/lang/StackTraceElement;", false)
  | 2 => ("java/lang/Throwable", "suppressedExceptions", "Ljava/util/List;", false)
  | 3 => ("java/lang/Throwable", "detailMessage", "Ljava/lang/String;", false)
  | 4 => ("java/lang/Throwable", "backtrace", "Ljava/lang/Object;", false)
  | 5 => ("java/lang/Throwable", "depth", "I", false)
  | 6 => ("java/lang/NullPointerException", "extendedMessageState", "I", false)
  | _ => ("java/lang/NullPointerException", "extendedMessage", "Ljava/lang/String;", false)
def tyJx5d777 : Nat → FieldType := fun k => match k with
  | 0 => .object "java/lang/Throwable"
  | 1 => .array (.object "java/lang/StackTraceElement")
  | 2 => .object "java/util/List"
  | 3 => .object "java/lang/String"
  | 4 => .object "java/lang/Object"
  | 5 => .int
  | 6 => .int
  | _ => .object "java/lang/String"
abbrev wsJx5d7770 : List Cond := u_ws RJx5d777 TJx5d777 8
theorem nmJx5d777 : ∀ a, a < 8 → ∀ b, b < 8 → a ≠ b → (TJx5d777 a).2.1 ≠ (TJx5d777 b).2.1 := by decide +kernel
theorem tyJx5d777_ok : ∀ k, k < 8 → parseFieldDescriptor (TJx5d777 k).2.2.1 = some (tyJx5d777 k) := by decide +kernel
abbrev cJx5d777_init_da8c8 : ByteArray := prog_12_method_1_code
def yJx5d777_init_da8c8 : MethodName := ⟨RJx5d777, "<init>", "()V"⟩
abbrev cJx5d777_fillInStackTrace_cddbd : ByteArray := prog_12_method_3_code
def yJx5d777_fillInStackTrace_cddbd : MethodName := ⟨RJx5d777, "fillInStackTrace", "()Ljava/lang/Throwable;"⟩
def RL : String := "ConversionTablesLaw"
abbrev cL_unboxed : ByteArray := method_3_code
def yL_unboxed : MethodName := ⟨RL, "unboxed", "(LConversionTables;II[J)I"⟩
abbrev cL_law : ByteArray := code
def yL_law : MethodName := ⟨RL, "law", "([I)Z"⟩
def wsX0_withoutSign : List Cond := .code yX0_withoutSign cX0_withoutSign 3 (some .long) :: ([.fieldLink RX0 43 "ConversionTables$Format" "sign" "J", .constantLong RX0 46 (-1)])
def wsX0_withSign : List Cond := .code yX0_withSign cX0_withSign 4 (some .long) :: ([.fieldLink RX0 43 "ConversionTables$Format" "sign" "J"])
def wsX0_exponentField : List Cond := .code yX0_exponentField cX0_exponentField 3 (some .long) :: ([.fieldLink RX0 29 "ConversionTables$Format" "precision" "I", .methodLink RX0 48 yX0_withoutSign, .instanceMethod yX0_withoutSign, .selects RX0 yX0_withoutSign yX0_withoutSign, .initialized RX0, .code yX0_withoutSign cX0_withoutSign 3 (some .long), .fieldLink RX0 43 "ConversionTables$Format" "sign" "J", .constantLong RX0 46 (-1)] ++ (vx_atN 8).filter goodWord)
def wsX0_significand : List Cond := .code yX0_significand cX0_significand 7 (some .long) :: ([.fieldLink RX0 29 "ConversionTables$Format" "precision" "I", .methodLink RX0 48 yX0_withoutSign, .instanceMethod yX0_withoutSign, .selects RX0 yX0_withoutSign yX0_withoutSign, .initialized RX0, .code yX0_withoutSign cX0_withoutSign 3 (some .long), .fieldLink RX0 43 "ConversionTables$Format" "sign" "J", .constantLong RX0 46 (-1), .methodLink RX0 52 yX0_exponentField, .instanceMethod yX0_exponentField, .selects RX0 yX0_exponentField yX0_exponentField, .code yX0_exponentField cX0_exponentField 3 (some .long)] ++ (vx_atN 8).filter goodWord)
def wsX0_exponent : List Cond := .code yX0_exponent cX0_exponent 3 (some .int) :: ([.fieldLink RX0 33 "ConversionTables$Format" "lowestExponent" "I", .methodLink RX0 55 Lib.MathLoose.max_long.x, .static Lib.MathLoose.max_long.x, .initialized "java/lang/Math", .code Lib.MathLoose.max_long.x Lib.MathLoose.max_long.code 4 (some .long), .methodLink RX0 52 yX0_exponentField, .instanceMethod yX0_exponentField, .selects RX0 yX0_exponentField yX0_exponentField, .initialized RX0, .code yX0_exponentField cX0_exponentField 3 (some .long), .fieldLink RX0 29 "ConversionTables$Format" "precision" "I", .methodLink RX0 48 yX0_withoutSign, .instanceMethod yX0_withoutSign, .selects RX0 yX0_withoutSign yX0_withoutSign, .code yX0_withoutSign cX0_withoutSign 3 (some .long), .fieldLink RX0 43 "ConversionTables$Format" "sign" "J", .constantLong RX0 46 (-1)] ++ (vx_atN 8).filter goodWord)
def wsJ6_numberOfLeadingZeros_0f7a4 : List Cond := .code yJ6_numberOfLeadingZeros_0f7a4 cJ6_numberOfLeadingZeros_0f7a4 2 (some .int) :: ([.constant RJ6 264 (65536)])
def wsJ13_numberOfLeadingZeros_95d88 : List Cond := .code yJ13_numberOfLeadingZeros_95d88 cJ13_numberOfLeadingZeros_95d88 3 (some .int) :: ([.methodLink RJ13 308 yJ6_numberOfLeadingZeros_0f7a4, .static yJ6_numberOfLeadingZeros_0f7a4, .initialized RJ6, .code yJ6_numberOfLeadingZeros_0f7a4 cJ6_numberOfLeadingZeros_0f7a4 2 (some .int), .constant RJ6 264 (65536)])
def wsX0_widthOf : List Cond := .code yX0_widthOf cX0_widthOf 2 (some .int) :: ([.methodLink RX0 86 yJ13_numberOfLeadingZeros_95d88, .static yJ13_numberOfLeadingZeros_95d88, .initialized RJ13, .code yJ13_numberOfLeadingZeros_95d88 cJ13_numberOfLeadingZeros_95d88 3 (some .int), .methodLink RJ13 308 yJ6_numberOfLeadingZeros_0f7a4, .static yJ6_numberOfLeadingZeros_0f7a4, .initialized RJ6, .code yJ6_numberOfLeadingZeros_0f7a4 cJ6_numberOfLeadingZeros_0f7a4 2 (some .int), .constant RJ6 264 (65536)])
def wsX0_rounded : List Cond := .code yX0_rounded cX0_rounded 10 (some .long) :: ([])
def wsX0_nearest_r1 : List Cond := [Cond.fieldLink RX0 29 "ConversionTables$Format" "precision" "I", Cond.fieldLink RX0 33 "ConversionTables$Format" "lowestExponent" "I", Cond.methodLink RX0 91 Lib.Math.max.name, Cond.static Lib.Math.max.name, Cond.initialized "java/lang/Math", Cond.code Lib.Math.max.name Lib.Math.max.code 2 (some .int), Cond.fieldLink RX0 36 "ConversionTables$Format" "infinity" "J", Cond.methodLink RX0 97 Lib.MathLoose.min_long.x, Cond.static Lib.MathLoose.min_long.x, Cond.code Lib.MathLoose.min_long.x Lib.MathLoose.min_long.code 4 (some .long), Cond.methodLink RX0 76 yX0_widthOf, Cond.static yX0_widthOf, Cond.initialized RX0, Cond.code yX0_widthOf cX0_widthOf 2 (some .int), Cond.methodLink RX0 86 yJ13_numberOfLeadingZeros_95d88, Cond.static yJ13_numberOfLeadingZeros_95d88, Cond.initialized RJ13, Cond.code yJ13_numberOfLeadingZeros_95d88 cJ13_numberOfLeadingZeros_95d88 3 (some .int), Cond.methodLink RJ13 308 yJ6_numberOfLeadingZeros_0f7a4, Cond.static yJ6_numberOfLeadingZeros_0f7a4, Cond.initialized RJ6, Cond.code yJ6_numberOfLeadingZeros_0f7a4 cJ6_numberOfLeadingZeros_0f7a4 2 (some .int), Cond.constant RJ6 264 (65536), Cond.methodLink RX0 94 yX0_rounded]
def wsX0_nearest_r2 : List Cond := [Cond.static yX0_rounded, Cond.code yX0_rounded cX0_rounded 10 (some .long)]
def wsX0_nearest : List Cond := .code yX0_nearest cX0_nearest 9 (some .long) :: ((wsX0_nearest_r1 ++ wsX0_nearest_r2))
def wsX0_fromLong_r1 : List Cond := [Cond.methodLink RX0 61 yX0_nearest, Cond.instanceMethod yX0_nearest, Cond.selects RX0 yX0_nearest yX0_nearest, Cond.initialized RX0, Cond.code yX0_nearest cX0_nearest 9 (some .long), Cond.fieldLink RX0 29 "ConversionTables$Format" "precision" "I", Cond.fieldLink RX0 33 "ConversionTables$Format" "lowestExponent" "I", Cond.methodLink RX0 91 Lib.Math.max.name, Cond.static Lib.Math.max.name, Cond.initialized "java/lang/Math", Cond.code Lib.Math.max.name Lib.Math.max.code 2 (some .int), Cond.fieldLink RX0 36 "ConversionTables$Format" "infinity" "J", Cond.methodLink RX0 97 Lib.MathLoose.min_long.x, Cond.static Lib.MathLoose.min_long.x, Cond.code Lib.MathLoose.min_long.x Lib.MathLoose.min_long.code 4 (some .long), Cond.methodLink RX0 76 yX0_widthOf, Cond.static yX0_widthOf, Cond.code yX0_widthOf cX0_widthOf 2 (some .int), Cond.methodLink RX0 86 yJ13_numberOfLeadingZeros_95d88, Cond.static yJ13_numberOfLeadingZeros_95d88, Cond.initialized RJ13, Cond.code yJ13_numberOfLeadingZeros_95d88 cJ13_numberOfLeadingZeros_95d88 3 (some .int), Cond.methodLink RJ13 308 yJ6_numberOfLeadingZeros_0f7a4, Cond.static yJ6_numberOfLeadingZeros_0f7a4]
def wsX0_fromLong_r2 : List Cond := [Cond.initialized RJ6, Cond.code yJ6_numberOfLeadingZeros_0f7a4 cJ6_numberOfLeadingZeros_0f7a4 2 (some .int), Cond.constant RJ6 264 (65536), Cond.methodLink RX0 94 yX0_rounded, Cond.static yX0_rounded, Cond.code yX0_rounded cX0_rounded 10 (some .long), Cond.methodLink RX0 65 yX0_withSign, Cond.instanceMethod yX0_withSign, Cond.selects RX0 yX0_withSign yX0_withSign, Cond.code yX0_withSign cX0_withSign 4 (some .long), Cond.fieldLink RX0 43 "ConversionTables$Format" "sign" "J"]
def wsX0_fromLong : List Cond := .code yX0_fromLong cX0_fromLong 4 (some .long) :: ((wsX0_fromLong_r1 ++ wsX0_fromLong_r2) ++ (vx_atN 8).filter goodWord)
def wsX0_fromFormat_r1 : List Cond := [Cond.fieldLink RX0 36 "ConversionTables$Format" "infinity" "J", Cond.fieldLink RX0 40 "ConversionTables$Format" "nan" "J", Cond.methodLink RX0 48 yX0_withoutSign, Cond.instanceMethod yX0_withoutSign, Cond.selects RX0 yX0_withoutSign yX0_withoutSign, Cond.initialized RX0, Cond.code yX0_withoutSign cX0_withoutSign 3 (some .long), Cond.fieldLink RX0 43 "ConversionTables$Format" "sign" "J", Cond.constantLong RX0 46 (-1), Cond.methodLink RX0 65 yX0_withSign, Cond.instanceMethod yX0_withSign, Cond.selects RX0 yX0_withSign yX0_withSign, Cond.code yX0_withSign cX0_withSign 4 (some .long), Cond.methodLink RX0 69 yX0_significand, Cond.instanceMethod yX0_significand, Cond.selects RX0 yX0_significand yX0_significand, Cond.code yX0_significand cX0_significand 7 (some .long), Cond.fieldLink RX0 29 "ConversionTables$Format" "precision" "I", Cond.methodLink RX0 52 yX0_exponentField, Cond.instanceMethod yX0_exponentField, Cond.selects RX0 yX0_exponentField yX0_exponentField, Cond.code yX0_exponentField cX0_exponentField 3 (some .long), Cond.methodLink RX0 72 yX0_exponent, Cond.instanceMethod yX0_exponent]
def wsX0_fromFormat_r2 : List Cond := [Cond.selects RX0 yX0_exponent yX0_exponent, Cond.code yX0_exponent cX0_exponent 3 (some .int), Cond.fieldLink RX0 33 "ConversionTables$Format" "lowestExponent" "I", Cond.methodLink RX0 55 Lib.MathLoose.max_long.x, Cond.static Lib.MathLoose.max_long.x, Cond.initialized "java/lang/Math", Cond.code Lib.MathLoose.max_long.x Lib.MathLoose.max_long.code 4 (some .long), Cond.methodLink RX0 61 yX0_nearest, Cond.instanceMethod yX0_nearest, Cond.selects RX0 yX0_nearest yX0_nearest, Cond.code yX0_nearest cX0_nearest 9 (some .long), Cond.methodLink RX0 91 Lib.Math.max.name, Cond.static Lib.Math.max.name, Cond.code Lib.Math.max.name Lib.Math.max.code 2 (some .int), Cond.methodLink RX0 97 Lib.MathLoose.min_long.x, Cond.static Lib.MathLoose.min_long.x, Cond.code Lib.MathLoose.min_long.x Lib.MathLoose.min_long.code 4 (some .long), Cond.methodLink RX0 76 yX0_widthOf, Cond.static yX0_widthOf, Cond.code yX0_widthOf cX0_widthOf 2 (some .int), Cond.methodLink RX0 86 yJ13_numberOfLeadingZeros_95d88, Cond.static yJ13_numberOfLeadingZeros_95d88, Cond.initialized RJ13, Cond.code yJ13_numberOfLeadingZeros_95d88 cJ13_numberOfLeadingZeros_95d88 3 (some .int)]
def wsX0_fromFormat_r3 : List Cond := [Cond.methodLink RJ13 308 yJ6_numberOfLeadingZeros_0f7a4, Cond.static yJ6_numberOfLeadingZeros_0f7a4, Cond.initialized RJ6, Cond.code yJ6_numberOfLeadingZeros_0f7a4 cJ6_numberOfLeadingZeros_0f7a4 2 (some .int), Cond.constant RJ6 264 (65536), Cond.methodLink RX0 94 yX0_rounded, Cond.static yX0_rounded, Cond.code yX0_rounded cX0_rounded 10 (some .long)]
def wsX0_fromFormat : List Cond := .code yX0_fromFormat cX0_fromFormat 7 (some .long) :: ((wsX0_fromFormat_r1 ++ (wsX0_fromFormat_r2 ++ wsX0_fromFormat_r3)) ++ (vx_atN 8).filter goodWord)
def wsX0_shifted : List Cond := .code yX0_shifted cX0_shifted 3 (some .long) :: ([])
def wsX0_toLong_r1 : List Cond := [Cond.fieldLink RX0 36 "ConversionTables$Format" "infinity" "J", Cond.constantLong RX0 79 (-9223372036854775808), Cond.constantLong RX0 81 (9223372036854775807), Cond.methodLink RX0 48 yX0_withoutSign, Cond.instanceMethod yX0_withoutSign, Cond.selects RX0 yX0_withoutSign yX0_withoutSign, Cond.initialized RX0, Cond.code yX0_withoutSign cX0_withoutSign 3 (some .long), Cond.fieldLink RX0 43 "ConversionTables$Format" "sign" "J", Cond.constantLong RX0 46 (-1), Cond.methodLink RX0 69 yX0_significand, Cond.instanceMethod yX0_significand, Cond.selects RX0 yX0_significand yX0_significand, Cond.code yX0_significand cX0_significand 7 (some .long), Cond.fieldLink RX0 29 "ConversionTables$Format" "precision" "I", Cond.methodLink RX0 52 yX0_exponentField, Cond.instanceMethod yX0_exponentField, Cond.selects RX0 yX0_exponentField yX0_exponentField, Cond.code yX0_exponentField cX0_exponentField 3 (some .long), Cond.methodLink RX0 72 yX0_exponent, Cond.instanceMethod yX0_exponent, Cond.selects RX0 yX0_exponent yX0_exponent, Cond.code yX0_exponent cX0_exponent 3 (some .int), Cond.fieldLink RX0 33 "ConversionTables$Format" "lowestExponent" "I"]
def wsX0_toLong_r2 : List Cond := [Cond.methodLink RX0 55 Lib.MathLoose.max_long.x, Cond.static Lib.MathLoose.max_long.x, Cond.initialized "java/lang/Math", Cond.code Lib.MathLoose.max_long.x Lib.MathLoose.max_long.code 4 (some .long), Cond.methodLink RX0 76 yX0_widthOf, Cond.static yX0_widthOf, Cond.code yX0_widthOf cX0_widthOf 2 (some .int), Cond.methodLink RX0 86 yJ13_numberOfLeadingZeros_95d88, Cond.static yJ13_numberOfLeadingZeros_95d88, Cond.initialized RJ13, Cond.code yJ13_numberOfLeadingZeros_95d88 cJ13_numberOfLeadingZeros_95d88 3 (some .int), Cond.methodLink RJ13 308 yJ6_numberOfLeadingZeros_0f7a4, Cond.static yJ6_numberOfLeadingZeros_0f7a4, Cond.initialized RJ6, Cond.code yJ6_numberOfLeadingZeros_0f7a4 cJ6_numberOfLeadingZeros_0f7a4 2 (some .int), Cond.constant RJ6 264 (65536), Cond.methodLink RX0 83 yX0_shifted, Cond.static yX0_shifted, Cond.code yX0_shifted cX0_shifted 3 (some .long)]
def wsX0_toLong : List Cond := .code yX0_toLong cX0_toLong 9 (some .long) :: ((wsX0_toLong_r1 ++ wsX0_toLong_r2) ++ (vx_atN 8).filter goodWord)
def wsX1_bit : List Cond := .code yX1_bit cX1_bit 1 (some .long) :: ([])
def wsX1_setKnown : List Cond := .code yX1_setKnown cX1_setKnown 6 none :: ([.fieldLink RX1 9 "ConversionTables$TypeTable" "sorts" "[I", .fieldLink RX1 15 "ConversionTables$TypeTable" "finals" "[Z", .fieldLink RX1 19 "ConversionTables$TypeTable" "elements" "[I", .fieldLink RX1 22 "ConversionTables$TypeTable" "aboves" "[J", .methodLink RX1 34 yX1_bit, .static yX1_bit, .initialized RX1, .code yX1_bit cX1_bit 1 (some .long)] ++ wsX10 ++ (vx_atN 8).filter goodWord)
def wsX1_init : List Cond := .code yX1_init cX1_init 7 none :: ([.methodLink RX1 3 objectInit, .instanceMethod objectInit, .code objectInit ⟨#[0xb1]⟩ 1 none, .arrayClass .int, .fieldLink RX1 9 "ConversionTables$TypeTable" "sorts" "[I", .arrayClass .boolean, .fieldLink RX1 15 "ConversionTables$TypeTable" "finals" "[Z", .fieldLink RX1 19 "ConversionTables$TypeTable" "elements" "[I", .arrayClass .long, .fieldLink RX1 22 "ConversionTables$TypeTable" "aboves" "[J", .fieldLink RX1 26 "ConversionTables$TypeTable" "size" "I", .methodLink RX1 30 yX1_setKnown, .instanceMethod yX1_setKnown, .selects RX1 yX1_setKnown yX1_setKnown, .initialized RX1, .code yX1_setKnown cX1_setKnown 6 none, .methodLink RX1 34 yX1_bit, .static yX1_bit, .code yX1_bit cX1_bit 1 (some .long)] ++ wsX10 ++ (vx_atN 8).filter goodWord)
def wsX1_size : List Cond := .code yX1_size cX1_size 1 (some .int) :: ([.fieldLink RX1 26 "ConversionTables$TypeTable" "size" "I"] ++ wsX10)
def wsX1_isFull : List Cond := .code yX1_isFull cX1_isFull 1 (some .boolean) :: ([.fieldLink RX1 26 "ConversionTables$TypeTable" "size" "I"] ++ wsX10)
def wsX1_has : List Cond := .code yX1_has cX1_has 2 (some .boolean) :: ([.fieldLink RX1 26 "ConversionTables$TypeTable" "size" "I"] ++ wsX10)
def wsX1_sortOf : List Cond := .code yX1_sortOf cX1_sortOf 2 (some .int) :: ([.fieldLink RX1 9 "ConversionTables$TypeTable" "sorts" "[I"] ++ wsX10 ++ (vx_atN 8).filter goodWord)
def wsX1_isFinal : List Cond := .code yX1_isFinal cX1_isFinal 2 (some .boolean) :: ([.fieldLink RX1 15 "ConversionTables$TypeTable" "finals" "[Z"] ++ wsX10 ++ (vx_atN 8).filter goodWord)
def wsX1_elementOf : List Cond := .code yX1_elementOf cX1_elementOf 2 (some .int) :: ([.fieldLink RX1 19 "ConversionTables$TypeTable" "elements" "[I"] ++ wsX10 ++ (vx_atN 8).filter goodWord)
def wsJ13_bitCount_95d88 : List Cond := .code yJ13_bitCount_95d88 cJ13_bitCount_95d88 2 (some .int) :: ([.constantLong RJ13 314 (6148914691236517205), .constantLong RJ13 316 (3689348814741910323), .constantLong RJ13 318 (1085102592571150095)])
def wsX1_countAbove : List Cond := .code yX1_countAbove cX1_countAbove 2 (some .int) :: ([.fieldLink RX1 22 "ConversionTables$TypeTable" "aboves" "[J", .methodLink RX1 38 yJ13_bitCount_95d88, .static yJ13_bitCount_95d88, .initialized RJ13, .code yJ13_bitCount_95d88 cJ13_bitCount_95d88 2 (some .int), .constantLong RJ13 314 (6148914691236517205), .constantLong RJ13 316 (3689348814741910323), .constantLong RJ13 318 (1085102592571150095)] ++ wsX10 ++ (vx_atN 8).filter goodWord)
def wsX1_isUnder : List Cond := .code yX1_isUnder cX1_isUnder 3 (some .boolean) :: ([.fieldLink RX1 22 "ConversionTables$TypeTable" "aboves" "[J", .methodLink RX1 34 yX1_bit, .static yX1_bit, .initialized RX1, .code yX1_bit cX1_bit 1 (some .long)] ++ wsX10 ++ (vx_atN 8).filter goodWord)
def wsX1_mayHaveSubclass : List Cond := .code yX1_mayHaveSubclass cX1_mayHaveSubclass 2 (some .boolean) :: ([.fieldLink RX1 9 "ConversionTables$TypeTable" "sorts" "[I", .fieldLink RX1 15 "ConversionTables$TypeTable" "finals" "[Z"] ++ wsX10 ++ (vx_atN 8).filter goodWord)
def wsX1_arrayOf : List Cond := .code yX1_arrayOf cX1_arrayOf 3 (some .int) :: ([.fieldLink RX1 26 "ConversionTables$TypeTable" "size" "I", .fieldLink RX1 9 "ConversionTables$TypeTable" "sorts" "[I", .fieldLink RX1 19 "ConversionTables$TypeTable" "elements" "[I"] ++ wsX10 ++ (vx_atN 8).filter goodWord)
def wsX1_aboveOrNothing : List Cond := .code yX1_aboveOrNothing cX1_aboveOrNothing 2 (some .long) :: ([.fieldLink RX1 22 "ConversionTables$TypeTable" "aboves" "[J"] ++ wsX10 ++ (vx_atN 8).filter goodWord)
def wsX1_add : List Cond := .code yX1_add cX1_add 6 (some .int) :: ([.fieldLink RX1 26 "ConversionTables$TypeTable" "size" "I", .fieldLink RX1 22 "ConversionTables$TypeTable" "aboves" "[J", .methodLink RX1 30 yX1_setKnown, .instanceMethod yX1_setKnown, .selects RX1 yX1_setKnown yX1_setKnown, .initialized RX1, .code yX1_setKnown cX1_setKnown 6 none, .fieldLink RX1 9 "ConversionTables$TypeTable" "sorts" "[I", .fieldLink RX1 15 "ConversionTables$TypeTable" "finals" "[Z", .fieldLink RX1 19 "ConversionTables$TypeTable" "elements" "[I", .methodLink RX1 34 yX1_bit, .static yX1_bit, .code yX1_bit cX1_bit 1 (some .long)] ++ wsX10 ++ (vx_atN 8).filter goodWord)
def wsX1_addClass : List Cond := .code yX1_addClass cX1_addClass 4 (some .int) :: ([.fieldLink RX1 22 "ConversionTables$TypeTable" "aboves" "[J", .methodLink RX1 44 yX1_aboveOrNothing, .instanceMethod yX1_aboveOrNothing, .selects RX1 yX1_aboveOrNothing yX1_aboveOrNothing, .initialized RX1, .code yX1_aboveOrNothing cX1_aboveOrNothing 2 (some .long), .methodLink RX1 47 yX1_add, .instanceMethod yX1_add, .selects RX1 yX1_add yX1_add, .code yX1_add cX1_add 6 (some .int), .fieldLink RX1 26 "ConversionTables$TypeTable" "size" "I", .methodLink RX1 30 yX1_setKnown, .instanceMethod yX1_setKnown, .selects RX1 yX1_setKnown yX1_setKnown, .code yX1_setKnown cX1_setKnown 6 none, .fieldLink RX1 9 "ConversionTables$TypeTable" "sorts" "[I", .fieldLink RX1 15 "ConversionTables$TypeTable" "finals" "[Z", .fieldLink RX1 19 "ConversionTables$TypeTable" "elements" "[I", .methodLink RX1 34 yX1_bit, .static yX1_bit, .code yX1_bit cX1_bit 1 (some .long)] ++ wsX10 ++ (vx_atN 8).filter goodWord)
def wsX1_addInterface : List Cond := .code yX1_addInterface cX1_addInterface 5 (some .int) :: ([.fieldLink RX1 22 "ConversionTables$TypeTable" "aboves" "[J", .methodLink RX1 44 yX1_aboveOrNothing, .instanceMethod yX1_aboveOrNothing, .selects RX1 yX1_aboveOrNothing yX1_aboveOrNothing, .initialized RX1, .code yX1_aboveOrNothing cX1_aboveOrNothing 2 (some .long), .methodLink RX1 47 yX1_add, .instanceMethod yX1_add, .selects RX1 yX1_add yX1_add, .code yX1_add cX1_add 6 (some .int), .fieldLink RX1 26 "ConversionTables$TypeTable" "size" "I", .methodLink RX1 30 yX1_setKnown, .instanceMethod yX1_setKnown, .selects RX1 yX1_setKnown yX1_setKnown, .code yX1_setKnown cX1_setKnown 6 none, .fieldLink RX1 9 "ConversionTables$TypeTable" "sorts" "[I", .fieldLink RX1 15 "ConversionTables$TypeTable" "finals" "[Z", .fieldLink RX1 19 "ConversionTables$TypeTable" "elements" "[I", .methodLink RX1 34 yX1_bit, .static yX1_bit, .code yX1_bit cX1_bit 1 (some .long)] ++ wsX10 ++ (vx_atN 8).filter goodWord)
def wsX1_placeArrays : List Cond := .code yX1_placeArrays cX1_placeArrays 3 none :: ([.fieldLink RX1 19 "ConversionTables$TypeTable" "elements" "[I", .fieldLink RX1 22 "ConversionTables$TypeTable" "aboves" "[J", .methodLink RX1 55 yX1_isUnder, .instanceMethod yX1_isUnder, .selects RX1 yX1_isUnder yX1_isUnder, .initialized RX1, .code yX1_isUnder cX1_isUnder 3 (some .boolean), .methodLink RX1 34 yX1_bit, .static yX1_bit, .code yX1_bit cX1_bit 1 (some .long)] ++ wsX10 ++ (vx_atN 8).filter goodWord)
def wsX1_addArray_r1 : List Cond := [Cond.fieldLink RX1 22 "ConversionTables$TypeTable" "aboves" "[J", Cond.fieldLink RX1 19 "ConversionTables$TypeTable" "elements" "[I", Cond.fieldLink RX1 9 "ConversionTables$TypeTable" "sorts" "[I", Cond.methodLink RX1 47 yX1_add, Cond.instanceMethod yX1_add, Cond.selects RX1 yX1_add yX1_add, Cond.initialized RX1, Cond.code yX1_add cX1_add 6 (some .int), Cond.fieldLink RX1 26 "ConversionTables$TypeTable" "size" "I", Cond.methodLink RX1 30 yX1_setKnown, Cond.instanceMethod yX1_setKnown, Cond.selects RX1 yX1_setKnown yX1_setKnown, Cond.code yX1_setKnown cX1_setKnown 6 none, Cond.fieldLink RX1 15 "ConversionTables$TypeTable" "finals" "[Z", Cond.methodLink RX1 34 yX1_bit, Cond.static yX1_bit, Cond.code yX1_bit cX1_bit 1 (some .long), Cond.methodLink RX1 51 yX1_placeArrays, Cond.instanceMethod yX1_placeArrays, Cond.selects RX1 yX1_placeArrays yX1_placeArrays, Cond.code yX1_placeArrays cX1_placeArrays 3 none, Cond.methodLink RX1 55 yX1_isUnder, Cond.instanceMethod yX1_isUnder, Cond.selects RX1 yX1_isUnder yX1_isUnder]
def wsX1_addArray_r2 : List Cond := [Cond.code yX1_isUnder cX1_isUnder 3 (some .boolean)]
def wsX1_addArray : List Cond := .code yX1_addArray cX1_addArray 4 (some .int) :: ((wsX1_addArray_r1 ++ wsX1_addArray_r2) ++ wsX10 ++ (vx_atN 8).filter goodWord)
def wsX1_isArrayOfReferences : List Cond := .code yX1_isArrayOfReferences cX1_isArrayOfReferences 2 (some .boolean) :: ([.fieldLink RX1 9 "ConversionTables$TypeTable" "sorts" "[I", .fieldLink RX1 19 "ConversionTables$TypeTable" "elements" "[I"] ++ wsX10 ++ (vx_atN 8).filter goodWord)
def wsX1_isOpenClass : List Cond := .code yX1_isOpenClass cX1_isOpenClass 2 (some .boolean) :: ([.fieldLink RX1 9 "ConversionTables$TypeTable" "sorts" "[I", .fieldLink RX1 15 "ConversionTables$TypeTable" "finals" "[Z"] ++ wsX10 ++ (vx_atN 8).filter goodWord)
def wsX1_mayShareObjects : List Cond := .code yX1_mayShareObjects cX1_mayShareObjects 3 (some .boolean) :: ([.fieldLink RX1 9 "ConversionTables$TypeTable" "sorts" "[I", .methodLink RX1 66 yX1_isOpenClass, .instanceMethod yX1_isOpenClass, .selects RX1 yX1_isOpenClass yX1_isOpenClass, .initialized RX1, .code yX1_isOpenClass cX1_isOpenClass 2 (some .boolean), .fieldLink RX1 15 "ConversionTables$TypeTable" "finals" "[Z"] ++ wsX10 ++ (vx_atN 8).filter goodWord)
def wsX1_goesDown : List Cond := .code yX1_goesDown cX1_goesDown 6 (some .boolean) :: ([.fieldLink RX1 19 "ConversionTables$TypeTable" "elements" "[I", .methodLink RX1 59 yX1_isArrayOfReferences, .instanceMethod yX1_isArrayOfReferences, .selects RX1 yX1_isArrayOfReferences yX1_isArrayOfReferences, .initialized RX1, .code yX1_isArrayOfReferences cX1_isArrayOfReferences 2 (some .boolean), .fieldLink RX1 9 "ConversionTables$TypeTable" "sorts" "[I", .methodLink RX1 55 yX1_isUnder, .instanceMethod yX1_isUnder, .selects RX1 yX1_isUnder yX1_isUnder, .code yX1_isUnder cX1_isUnder 3 (some .boolean), .fieldLink RX1 22 "ConversionTables$TypeTable" "aboves" "[J", .methodLink RX1 34 yX1_bit, .static yX1_bit, .code yX1_bit cX1_bit 1 (some .long), .methodLink RX1 63 yX1_mayShareObjects, .instanceMethod yX1_mayShareObjects, .selects RX1 yX1_mayShareObjects yX1_mayShareObjects, .code yX1_mayShareObjects cX1_mayShareObjects 3 (some .boolean), .methodLink RX1 66 yX1_isOpenClass, .instanceMethod yX1_isOpenClass, .selects RX1 yX1_isOpenClass yX1_isOpenClass, .code yX1_isOpenClass cX1_isOpenClass 2 (some .boolean), .fieldLink RX1 15 "ConversionTables$TypeTable" "finals" "[Z"] ++ wsX10 ++ (vx_atN 8).filter goodWord)
def wsX2_init_r1 : List Cond := [Cond.methodLink RX2 3 objectInit, Cond.instanceMethod objectInit, Cond.code objectInit ⟨#[0xb1]⟩ 1 none, Cond.classLink RX2 9 RX1, Cond.instantiable RX1 5, Cond.initialized RX1, Cond.fieldLink RX2 12 "ConversionTables" "types" "LConversionTables$TypeTable;", Cond.arrayClass .int, Cond.fieldLink RX2 16 "ConversionTables" "objectTypes" "[I", Cond.arrayClass .long, Cond.fieldLink RX2 20 "ConversionTables" "objectBits" "[J", Cond.fieldLink RX2 24 "ConversionTables" "objectCount" "I", Cond.methodLink RX2 11 yX1_init, Cond.instanceMethod yX1_init, Cond.code yX1_init cX1_init 7 none, Cond.methodLink RX1 3 objectInit, Cond.fieldLink RX1 9 "ConversionTables$TypeTable" "sorts" "[I", Cond.arrayClass .boolean, Cond.fieldLink RX1 15 "ConversionTables$TypeTable" "finals" "[Z", Cond.fieldLink RX1 19 "ConversionTables$TypeTable" "elements" "[I", Cond.fieldLink RX1 22 "ConversionTables$TypeTable" "aboves" "[J", Cond.fieldLink RX1 26 "ConversionTables$TypeTable" "size" "I", Cond.methodLink RX1 30 yX1_setKnown, Cond.instanceMethod yX1_setKnown]
def wsX2_init_r2 : List Cond := [Cond.selects RX1 yX1_setKnown yX1_setKnown, Cond.code yX1_setKnown cX1_setKnown 6 none, Cond.methodLink RX1 34 yX1_bit, Cond.static yX1_bit, Cond.code yX1_bit cX1_bit 1 (some .long)]
def wsX2_init : List Cond := .code yX2_init cX2_init 1 none :: ((wsX2_init_r1 ++ wsX2_init_r2) ++ wsX10 ++ wsX20 ++ (vx_atN 8).filter goodWord)
def wsX2_isTypeOrNone : List Cond := .code yX2_isTypeOrNone cX2_isTypeOrNone 2 (some .boolean) :: ([.fieldLink RX2 12 "ConversionTables" "types" "LConversionTables$TypeTable;", .methodLink RX2 50 yX1_has, .instanceMethod yX1_has, .selects RX1 yX1_has yX1_has, .initialized RX1, .code yX1_has cX1_has 2 (some .boolean), .fieldLink RX1 26 "ConversionTables$TypeTable" "size" "I"] ++ wsX20 ++ wsX10 ++ (vx_atN 8).filter goodWord)
def wsX2_isInterfaceOrNone : List Cond := .code yX2_isInterfaceOrNone cX2_isInterfaceOrNone 2 (some .boolean) :: ([.fieldLink RX2 12 "ConversionTables" "types" "LConversionTables$TypeTable;", .methodLink RX2 60 yX1_sortOf, .instanceMethod yX1_sortOf, .selects RX1 yX1_sortOf yX1_sortOf, .initialized RX1, .code yX1_sortOf cX1_sortOf 2 (some .int), .fieldLink RX1 9 "ConversionTables$TypeTable" "sorts" "[I"] ++ wsX20 ++ wsX10 ++ (vx_atN 8).filter goodWord)
def wsX2_newClass_r1 : List Cond := [Cond.fieldLink RX2 12 "ConversionTables" "types" "LConversionTables$TypeTable;", Cond.methodLink RX2 28 yX2_isTypeOrNone, Cond.instanceMethod yX2_isTypeOrNone, Cond.selects RX2 yX2_isTypeOrNone yX2_isTypeOrNone, Cond.initialized RX2, Cond.code yX2_isTypeOrNone cX2_isTypeOrNone 2 (some .boolean), Cond.methodLink RX2 50 yX1_has, Cond.instanceMethod yX1_has, Cond.selects RX1 yX1_has yX1_has, Cond.initialized RX1, Cond.code yX1_has cX1_has 2 (some .boolean), Cond.fieldLink RX1 26 "ConversionTables$TypeTable" "size" "I", Cond.methodLink RX2 32 yX1_mayHaveSubclass, Cond.instanceMethod yX1_mayHaveSubclass, Cond.selects RX1 yX1_mayHaveSubclass yX1_mayHaveSubclass, Cond.code yX1_mayHaveSubclass cX1_mayHaveSubclass 2 (some .boolean), Cond.fieldLink RX1 9 "ConversionTables$TypeTable" "sorts" "[I", Cond.fieldLink RX1 15 "ConversionTables$TypeTable" "finals" "[Z", Cond.methodLink RX2 35 yX2_isInterfaceOrNone, Cond.instanceMethod yX2_isInterfaceOrNone, Cond.selects RX2 yX2_isInterfaceOrNone yX2_isInterfaceOrNone, Cond.code yX2_isInterfaceOrNone cX2_isInterfaceOrNone 2 (some .boolean), Cond.methodLink RX2 60 yX1_sortOf, Cond.instanceMethod yX1_sortOf]
def wsX2_newClass_r2 : List Cond := [Cond.selects RX1 yX1_sortOf yX1_sortOf, Cond.code yX1_sortOf cX1_sortOf 2 (some .int), Cond.methodLink RX2 38 yX1_isFull, Cond.instanceMethod yX1_isFull, Cond.selects RX1 yX1_isFull yX1_isFull, Cond.code yX1_isFull cX1_isFull 1 (some .boolean), Cond.methodLink RX2 42 yX1_addClass, Cond.instanceMethod yX1_addClass, Cond.selects RX1 yX1_addClass yX1_addClass, Cond.code yX1_addClass cX1_addClass 4 (some .int), Cond.fieldLink RX1 22 "ConversionTables$TypeTable" "aboves" "[J", Cond.methodLink RX1 44 yX1_aboveOrNothing, Cond.instanceMethod yX1_aboveOrNothing, Cond.selects RX1 yX1_aboveOrNothing yX1_aboveOrNothing, Cond.code yX1_aboveOrNothing cX1_aboveOrNothing 2 (some .long), Cond.methodLink RX1 47 yX1_add, Cond.instanceMethod yX1_add, Cond.selects RX1 yX1_add yX1_add, Cond.code yX1_add cX1_add 6 (some .int), Cond.methodLink RX1 30 yX1_setKnown, Cond.instanceMethod yX1_setKnown, Cond.selects RX1 yX1_setKnown yX1_setKnown, Cond.code yX1_setKnown cX1_setKnown 6 none, Cond.fieldLink RX1 19 "ConversionTables$TypeTable" "elements" "[I"]
def wsX2_newClass_r3 : List Cond := [Cond.methodLink RX1 34 yX1_bit, Cond.static yX1_bit, Cond.code yX1_bit cX1_bit 1 (some .long)]
def wsX2_newClass : List Cond := .code yX2_newClass cX2_newClass 5 (some .int) :: ((wsX2_newClass_r1 ++ (wsX2_newClass_r2 ++ wsX2_newClass_r3)) ++ wsX20 ++ wsX10 ++ (vx_atN 8).filter goodWord)
def wsX2_newInterface_r1 : List Cond := [Cond.fieldLink RX2 12 "ConversionTables" "types" "LConversionTables$TypeTable;", Cond.methodLink RX2 28 yX2_isTypeOrNone, Cond.instanceMethod yX2_isTypeOrNone, Cond.selects RX2 yX2_isTypeOrNone yX2_isTypeOrNone, Cond.initialized RX2, Cond.code yX2_isTypeOrNone cX2_isTypeOrNone 2 (some .boolean), Cond.methodLink RX2 50 yX1_has, Cond.instanceMethod yX1_has, Cond.selects RX1 yX1_has yX1_has, Cond.initialized RX1, Cond.code yX1_has cX1_has 2 (some .boolean), Cond.fieldLink RX1 26 "ConversionTables$TypeTable" "size" "I", Cond.methodLink RX2 35 yX2_isInterfaceOrNone, Cond.instanceMethod yX2_isInterfaceOrNone, Cond.selects RX2 yX2_isInterfaceOrNone yX2_isInterfaceOrNone, Cond.code yX2_isInterfaceOrNone cX2_isInterfaceOrNone 2 (some .boolean), Cond.methodLink RX2 60 yX1_sortOf, Cond.instanceMethod yX1_sortOf, Cond.selects RX1 yX1_sortOf yX1_sortOf, Cond.code yX1_sortOf cX1_sortOf 2 (some .int), Cond.fieldLink RX1 9 "ConversionTables$TypeTable" "sorts" "[I", Cond.methodLink RX2 38 yX1_isFull, Cond.instanceMethod yX1_isFull, Cond.selects RX1 yX1_isFull yX1_isFull]
def wsX2_newInterface_r2 : List Cond := [Cond.code yX1_isFull cX1_isFull 1 (some .boolean), Cond.methodLink RX2 46 yX1_addInterface, Cond.instanceMethod yX1_addInterface, Cond.selects RX1 yX1_addInterface yX1_addInterface, Cond.code yX1_addInterface cX1_addInterface 5 (some .int), Cond.fieldLink RX1 22 "ConversionTables$TypeTable" "aboves" "[J", Cond.methodLink RX1 44 yX1_aboveOrNothing, Cond.instanceMethod yX1_aboveOrNothing, Cond.selects RX1 yX1_aboveOrNothing yX1_aboveOrNothing, Cond.code yX1_aboveOrNothing cX1_aboveOrNothing 2 (some .long), Cond.methodLink RX1 47 yX1_add, Cond.instanceMethod yX1_add, Cond.selects RX1 yX1_add yX1_add, Cond.code yX1_add cX1_add 6 (some .int), Cond.methodLink RX1 30 yX1_setKnown, Cond.instanceMethod yX1_setKnown, Cond.selects RX1 yX1_setKnown yX1_setKnown, Cond.code yX1_setKnown cX1_setKnown 6 none, Cond.fieldLink RX1 15 "ConversionTables$TypeTable" "finals" "[Z", Cond.fieldLink RX1 19 "ConversionTables$TypeTable" "elements" "[I", Cond.methodLink RX1 34 yX1_bit, Cond.static yX1_bit, Cond.code yX1_bit cX1_bit 1 (some .long)]
def wsX2_newInterface : List Cond := .code yX2_newInterface cX2_newInterface 3 (some .int) :: ((wsX2_newInterface_r1 ++ wsX2_newInterface_r2) ++ wsX20 ++ wsX10 ++ (vx_atN 8).filter goodWord)
def wsX2_array_r1 : List Cond := [Cond.fieldLink RX2 12 "ConversionTables" "types" "LConversionTables$TypeTable;", Cond.methodLink RX2 50 yX1_has, Cond.instanceMethod yX1_has, Cond.selects RX1 yX1_has yX1_has, Cond.initialized RX1, Cond.code yX1_has cX1_has 2 (some .boolean), Cond.fieldLink RX1 26 "ConversionTables$TypeTable" "size" "I", Cond.methodLink RX2 53 yX1_arrayOf, Cond.instanceMethod yX1_arrayOf, Cond.selects RX1 yX1_arrayOf yX1_arrayOf, Cond.code yX1_arrayOf cX1_arrayOf 3 (some .int), Cond.fieldLink RX1 9 "ConversionTables$TypeTable" "sorts" "[I", Cond.fieldLink RX1 19 "ConversionTables$TypeTable" "elements" "[I", Cond.methodLink RX2 38 yX1_isFull, Cond.instanceMethod yX1_isFull, Cond.selects RX1 yX1_isFull yX1_isFull, Cond.code yX1_isFull cX1_isFull 1 (some .boolean), Cond.methodLink RX2 57 yX1_addArray, Cond.instanceMethod yX1_addArray, Cond.selects RX1 yX1_addArray yX1_addArray, Cond.code yX1_addArray cX1_addArray 4 (some .int), Cond.fieldLink RX1 22 "ConversionTables$TypeTable" "aboves" "[J", Cond.methodLink RX1 47 yX1_add, Cond.instanceMethod yX1_add]
def wsX2_array_r2 : List Cond := [Cond.selects RX1 yX1_add yX1_add, Cond.code yX1_add cX1_add 6 (some .int), Cond.methodLink RX1 30 yX1_setKnown, Cond.instanceMethod yX1_setKnown, Cond.selects RX1 yX1_setKnown yX1_setKnown, Cond.code yX1_setKnown cX1_setKnown 6 none, Cond.fieldLink RX1 15 "ConversionTables$TypeTable" "finals" "[Z", Cond.methodLink RX1 34 yX1_bit, Cond.static yX1_bit, Cond.code yX1_bit cX1_bit 1 (some .long), Cond.methodLink RX1 51 yX1_placeArrays, Cond.instanceMethod yX1_placeArrays, Cond.selects RX1 yX1_placeArrays yX1_placeArrays, Cond.code yX1_placeArrays cX1_placeArrays 3 none, Cond.methodLink RX1 55 yX1_isUnder, Cond.instanceMethod yX1_isUnder, Cond.selects RX1 yX1_isUnder yX1_isUnder, Cond.code yX1_isUnder cX1_isUnder 3 (some .boolean)]
def wsX2_array : List Cond := .code yX2_array cX2_array 3 (some .int) :: ((wsX2_array_r1 ++ wsX2_array_r2) ++ wsX20 ++ wsX10 ++ (vx_atN 8).filter goodWord)
def wsX2_type_r1 : List Cond := [Cond.fieldLink RX2 12 "ConversionTables" "types" "LConversionTables$TypeTable;", Cond.methodLink RX2 50 yX1_has, Cond.instanceMethod yX1_has, Cond.selects RX1 yX1_has yX1_has, Cond.initialized RX1, Cond.code yX1_has cX1_has 2 (some .boolean), Cond.fieldLink RX1 26 "ConversionTables$TypeTable" "size" "I", Cond.methodLink RX2 60 yX1_sortOf, Cond.instanceMethod yX1_sortOf, Cond.selects RX1 yX1_sortOf yX1_sortOf, Cond.code yX1_sortOf cX1_sortOf 2 (some .int), Cond.fieldLink RX1 9 "ConversionTables$TypeTable" "sorts" "[I", Cond.methodLink RX2 63 yX1_isFinal, Cond.instanceMethod yX1_isFinal, Cond.selects RX1 yX1_isFinal yX1_isFinal, Cond.code yX1_isFinal cX1_isFinal 2 (some .boolean), Cond.fieldLink RX1 15 "ConversionTables$TypeTable" "finals" "[Z", Cond.methodLink RX2 66 yX1_elementOf, Cond.instanceMethod yX1_elementOf, Cond.selects RX1 yX1_elementOf yX1_elementOf, Cond.code yX1_elementOf cX1_elementOf 2 (some .int), Cond.fieldLink RX1 19 "ConversionTables$TypeTable" "elements" "[I", Cond.methodLink RX2 69 yX1_countAbove, Cond.instanceMethod yX1_countAbove]
def wsX2_type_r2 : List Cond := [Cond.selects RX1 yX1_countAbove yX1_countAbove, Cond.code yX1_countAbove cX1_countAbove 2 (some .int), Cond.fieldLink RX1 22 "ConversionTables$TypeTable" "aboves" "[J", Cond.methodLink RX1 38 yJ13_bitCount_95d88, Cond.static yJ13_bitCount_95d88, Cond.initialized RJ13, Cond.code yJ13_bitCount_95d88 cJ13_bitCount_95d88 2 (some .int), Cond.constantLong RJ13 314 (6148914691236517205), Cond.constantLong RJ13 316 (3689348814741910323), Cond.constantLong RJ13 318 (1085102592571150095)]
def wsX2_type : List Cond := .code yX2_type cX2_type 3 (some .int) :: ((wsX2_type_r1 ++ wsX2_type_r2) ++ wsX20 ++ wsX10 ++ (vx_atN 8).filter goodWord)
def wsX2_isPrimitive : List Cond := .code yX2_isPrimitive cX2_isPrimitive 1 (some .boolean) :: ([])
def wsX2_under : List Cond := .code yX2_under cX2_under 3 (some .int) :: ([.fieldLink RX2 12 "ConversionTables" "types" "LConversionTables$TypeTable;", .methodLink RX2 50 yX1_has, .instanceMethod yX1_has, .selects RX1 yX1_has yX1_has, .initialized RX1, .code yX1_has cX1_has 2 (some .boolean), .fieldLink RX1 26 "ConversionTables$TypeTable" "size" "I", .methodLink RX2 72 yX2_isPrimitive, .static yX2_isPrimitive, .initialized RX2, .code yX2_isPrimitive cX2_isPrimitive 1 (some .boolean), .methodLink RX2 75 yX1_isUnder, .instanceMethod yX1_isUnder, .selects RX1 yX1_isUnder yX1_isUnder, .code yX1_isUnder cX1_isUnder 3 (some .boolean), .fieldLink RX1 22 "ConversionTables$TypeTable" "aboves" "[J", .methodLink RX1 34 yX1_bit, .static yX1_bit, .code yX1_bit cX1_bit 1 (some .long)] ++ wsX20 ++ wsX10 ++ (vx_atN 8).filter goodWord)
def wsX2_isContext : List Cond := .code yX2_isContext cX2_isContext 1 (some .boolean) :: ([])
def wsX2_isNumber : List Cond := .code yX2_isNumber cX2_isNumber 1 (some .boolean) :: ([])
def wsX2_isWider : List Cond := .code yX2_isWider cX2_isWider 3 (some .boolean) :: ([.methodLink RX2 101 yX2_isNumber, .static yX2_isNumber, .initialized RX2, .code yX2_isNumber cX2_isNumber 1 (some .boolean)])
def wsX2_stepBetweenPrimitives : List Cond := .code yX2_stepBetweenPrimitives cX2_stepBetweenPrimitives 2 (some .int) :: ([.methodLink RX2 156 yX2_isWider, .static yX2_isWider, .initialized RX2, .code yX2_isWider cX2_isWider 3 (some .boolean), .methodLink RX2 101 yX2_isNumber, .static yX2_isNumber, .code yX2_isNumber cX2_isNumber 1 (some .boolean)])
def wsX2_boxed : List Cond := .code yX2_boxed cX2_boxed 1 (some .int) :: ([.methodLink RX2 72 yX2_isPrimitive, .static yX2_isPrimitive, .initialized RX2, .code yX2_isPrimitive cX2_isPrimitive 1 (some .boolean)])
def wsX2_stepsByBoxing : List Cond := .code yX2_stepsByBoxing cX2_stepsByBoxing 4 (some .int) :: ([.fieldLink RX2 12 "ConversionTables" "types" "LConversionTables$TypeTable;", .methodLink RX2 129 yX2_boxed, .static yX2_boxed, .initialized RX2, .code yX2_boxed cX2_boxed 1 (some .int), .methodLink RX2 72 yX2_isPrimitive, .static yX2_isPrimitive, .code yX2_isPrimitive cX2_isPrimitive 1 (some .boolean), .methodLink RX2 75 yX1_isUnder, .instanceMethod yX1_isUnder, .selects RX1 yX1_isUnder yX1_isUnder, .initialized RX1, .code yX1_isUnder cX1_isUnder 3 (some .boolean), .fieldLink RX1 22 "ConversionTables$TypeTable" "aboves" "[J", .methodLink RX1 34 yX1_bit, .static yX1_bit, .code yX1_bit cX1_bit 1 (some .long)] ++ wsX20 ++ wsX10 ++ (vx_atN 8).filter goodWord)
def wsX2_isBox : List Cond := .code yX2_isBox cX2_isBox 1 (some .boolean) :: ([])
def wsX2_withoutBox : List Cond := .code yX2_withoutBox cX2_withoutBox 1 (some .int) :: ([.methodLink RX2 135 yX2_isBox, .static yX2_isBox, .initialized RX2, .code yX2_isBox cX2_isBox 1 (some .boolean)])
def wsX2_stepsByUnboxing_r1 : List Cond := [Cond.fieldLink RX2 12 "ConversionTables" "types" "LConversionTables$TypeTable;", Cond.methodLink RX2 135 yX2_isBox, Cond.static yX2_isBox, Cond.initialized RX2, Cond.code yX2_isBox cX2_isBox 1 (some .boolean), Cond.methodLink RX2 129 yX2_boxed, Cond.static yX2_boxed, Cond.code yX2_boxed cX2_boxed 1 (some .int), Cond.methodLink RX2 72 yX2_isPrimitive, Cond.static yX2_isPrimitive, Cond.code yX2_isPrimitive cX2_isPrimitive 1 (some .boolean), Cond.methodLink RX2 159 yX1_goesDown, Cond.instanceMethod yX1_goesDown, Cond.selects RX1 yX1_goesDown yX1_goesDown, Cond.initialized RX1, Cond.code yX1_goesDown cX1_goesDown 6 (some .boolean), Cond.fieldLink RX1 19 "ConversionTables$TypeTable" "elements" "[I", Cond.methodLink RX1 59 yX1_isArrayOfReferences, Cond.instanceMethod yX1_isArrayOfReferences, Cond.selects RX1 yX1_isArrayOfReferences yX1_isArrayOfReferences, Cond.code yX1_isArrayOfReferences cX1_isArrayOfReferences 2 (some .boolean), Cond.fieldLink RX1 9 "ConversionTables$TypeTable" "sorts" "[I", Cond.methodLink RX1 55 yX1_isUnder, Cond.instanceMethod yX1_isUnder]
def wsX2_stepsByUnboxing_r2 : List Cond := [Cond.selects RX1 yX1_isUnder yX1_isUnder, Cond.code yX1_isUnder cX1_isUnder 3 (some .boolean), Cond.fieldLink RX1 22 "ConversionTables$TypeTable" "aboves" "[J", Cond.methodLink RX1 34 yX1_bit, Cond.static yX1_bit, Cond.code yX1_bit cX1_bit 1 (some .long), Cond.methodLink RX1 63 yX1_mayShareObjects, Cond.instanceMethod yX1_mayShareObjects, Cond.selects RX1 yX1_mayShareObjects yX1_mayShareObjects, Cond.code yX1_mayShareObjects cX1_mayShareObjects 3 (some .boolean), Cond.methodLink RX1 66 yX1_isOpenClass, Cond.instanceMethod yX1_isOpenClass, Cond.selects RX1 yX1_isOpenClass yX1_isOpenClass, Cond.code yX1_isOpenClass cX1_isOpenClass 2 (some .boolean), Cond.fieldLink RX1 15 "ConversionTables$TypeTable" "finals" "[Z", Cond.methodLink RX2 115 yX2_withoutBox, Cond.static yX2_withoutBox, Cond.code yX2_withoutBox cX2_withoutBox 1 (some .int), Cond.methodLink RX2 156 yX2_isWider, Cond.static yX2_isWider, Cond.code yX2_isWider cX2_isWider 3 (some .boolean), Cond.methodLink RX2 101 yX2_isNumber, Cond.static yX2_isNumber, Cond.code yX2_isNumber cX2_isNumber 1 (some .boolean)]
def wsX2_stepsByUnboxing : List Cond := .code yX2_stepsByUnboxing cX2_stepsByUnboxing 4 (some .int) :: ((wsX2_stepsByUnboxing_r1 ++ wsX2_stepsByUnboxing_r2) ++ wsX20 ++ wsX10 ++ (vx_atN 8).filter goodWord)
def wsX2_stepBetweenReferences_r1 : List Cond := [Cond.fieldLink RX2 12 "ConversionTables" "types" "LConversionTables$TypeTable;", Cond.methodLink RX2 75 yX1_isUnder, Cond.instanceMethod yX1_isUnder, Cond.selects RX1 yX1_isUnder yX1_isUnder, Cond.initialized RX1, Cond.code yX1_isUnder cX1_isUnder 3 (some .boolean), Cond.fieldLink RX1 22 "ConversionTables$TypeTable" "aboves" "[J", Cond.methodLink RX1 34 yX1_bit, Cond.static yX1_bit, Cond.code yX1_bit cX1_bit 1 (some .long), Cond.methodLink RX2 159 yX1_goesDown, Cond.instanceMethod yX1_goesDown, Cond.selects RX1 yX1_goesDown yX1_goesDown, Cond.code yX1_goesDown cX1_goesDown 6 (some .boolean), Cond.fieldLink RX1 19 "ConversionTables$TypeTable" "elements" "[I", Cond.methodLink RX1 59 yX1_isArrayOfReferences, Cond.instanceMethod yX1_isArrayOfReferences, Cond.selects RX1 yX1_isArrayOfReferences yX1_isArrayOfReferences, Cond.code yX1_isArrayOfReferences cX1_isArrayOfReferences 2 (some .boolean), Cond.fieldLink RX1 9 "ConversionTables$TypeTable" "sorts" "[I", Cond.methodLink RX1 55 yX1_isUnder, Cond.methodLink RX1 63 yX1_mayShareObjects, Cond.instanceMethod yX1_mayShareObjects, Cond.selects RX1 yX1_mayShareObjects yX1_mayShareObjects]
def wsX2_stepBetweenReferences_r2 : List Cond := [Cond.code yX1_mayShareObjects cX1_mayShareObjects 3 (some .boolean), Cond.methodLink RX1 66 yX1_isOpenClass, Cond.instanceMethod yX1_isOpenClass, Cond.selects RX1 yX1_isOpenClass yX1_isOpenClass, Cond.code yX1_isOpenClass cX1_isOpenClass 2 (some .boolean), Cond.fieldLink RX1 15 "ConversionTables$TypeTable" "finals" "[Z"]
def wsX2_stepBetweenReferences : List Cond := .code yX2_stepBetweenReferences cX2_stepBetweenReferences 3 (some .int) :: ((wsX2_stepBetweenReferences_r1 ++ wsX2_stepBetweenReferences_r2) ++ wsX20 ++ wsX10 ++ (vx_atN 8).filter goodWord)
def wsX2_stepsBetween_r1 : List Cond := [Cond.methodLink RX2 72 yX2_isPrimitive, Cond.static yX2_isPrimitive, Cond.initialized RX2, Cond.code yX2_isPrimitive cX2_isPrimitive 1 (some .boolean), Cond.methodLink RX2 144 yX2_stepBetweenPrimitives, Cond.static yX2_stepBetweenPrimitives, Cond.code yX2_stepBetweenPrimitives cX2_stepBetweenPrimitives 2 (some .int), Cond.methodLink RX2 156 yX2_isWider, Cond.static yX2_isWider, Cond.code yX2_isWider cX2_isWider 3 (some .boolean), Cond.methodLink RX2 101 yX2_isNumber, Cond.static yX2_isNumber, Cond.code yX2_isNumber cX2_isNumber 1 (some .boolean), Cond.methodLink RX2 147 yX2_stepsByBoxing, Cond.instanceMethod yX2_stepsByBoxing, Cond.selects RX2 yX2_stepsByBoxing yX2_stepsByBoxing, Cond.code yX2_stepsByBoxing cX2_stepsByBoxing 4 (some .int), Cond.fieldLink RX2 12 "ConversionTables" "types" "LConversionTables$TypeTable;", Cond.methodLink RX2 129 yX2_boxed, Cond.static yX2_boxed, Cond.code yX2_boxed cX2_boxed 1 (some .int), Cond.methodLink RX2 75 yX1_isUnder, Cond.instanceMethod yX1_isUnder, Cond.selects RX1 yX1_isUnder yX1_isUnder]
def wsX2_stepsBetween_r2 : List Cond := [Cond.initialized RX1, Cond.code yX1_isUnder cX1_isUnder 3 (some .boolean), Cond.fieldLink RX1 22 "ConversionTables$TypeTable" "aboves" "[J", Cond.methodLink RX1 34 yX1_bit, Cond.static yX1_bit, Cond.code yX1_bit cX1_bit 1 (some .long), Cond.methodLink RX2 150 yX2_stepsByUnboxing, Cond.instanceMethod yX2_stepsByUnboxing, Cond.selects RX2 yX2_stepsByUnboxing yX2_stepsByUnboxing, Cond.code yX2_stepsByUnboxing cX2_stepsByUnboxing 4 (some .int), Cond.methodLink RX2 135 yX2_isBox, Cond.static yX2_isBox, Cond.code yX2_isBox cX2_isBox 1 (some .boolean), Cond.methodLink RX2 159 yX1_goesDown, Cond.instanceMethod yX1_goesDown, Cond.selects RX1 yX1_goesDown yX1_goesDown, Cond.code yX1_goesDown cX1_goesDown 6 (some .boolean), Cond.fieldLink RX1 19 "ConversionTables$TypeTable" "elements" "[I", Cond.methodLink RX1 59 yX1_isArrayOfReferences, Cond.instanceMethod yX1_isArrayOfReferences, Cond.selects RX1 yX1_isArrayOfReferences yX1_isArrayOfReferences, Cond.code yX1_isArrayOfReferences cX1_isArrayOfReferences 2 (some .boolean), Cond.fieldLink RX1 9 "ConversionTables$TypeTable" "sorts" "[I", Cond.methodLink RX1 55 yX1_isUnder]
def wsX2_stepsBetween_r3 : List Cond := [Cond.methodLink RX1 63 yX1_mayShareObjects, Cond.instanceMethod yX1_mayShareObjects, Cond.selects RX1 yX1_mayShareObjects yX1_mayShareObjects, Cond.code yX1_mayShareObjects cX1_mayShareObjects 3 (some .boolean), Cond.methodLink RX1 66 yX1_isOpenClass, Cond.instanceMethod yX1_isOpenClass, Cond.selects RX1 yX1_isOpenClass yX1_isOpenClass, Cond.code yX1_isOpenClass cX1_isOpenClass 2 (some .boolean), Cond.fieldLink RX1 15 "ConversionTables$TypeTable" "finals" "[Z", Cond.methodLink RX2 115 yX2_withoutBox, Cond.static yX2_withoutBox, Cond.code yX2_withoutBox cX2_withoutBox 1 (some .int), Cond.methodLink RX2 153 yX2_stepBetweenReferences, Cond.instanceMethod yX2_stepBetweenReferences, Cond.selects RX2 yX2_stepBetweenReferences yX2_stepBetweenReferences, Cond.code yX2_stepBetweenReferences cX2_stepBetweenReferences 3 (some .int)]
def wsX2_stepsBetween : List Cond := .code yX2_stepsBetween cX2_stepsBetween 3 (some .int) :: ((wsX2_stepsBetween_r1 ++ (wsX2_stepsBetween_r2 ++ wsX2_stepsBetween_r3)) ++ wsX20 ++ wsX10 ++ (vx_atN 8).filter goodWord)
def wsX2_allowedKind_r1 : List Cond := [Cond.fieldLink RX2 141 "ConversionTables" "ALLOWED_KINDS" "[I", Cond.methodLink RX2 101 yX2_isNumber, Cond.static yX2_isNumber, Cond.initialized RX2, Cond.code yX2_isNumber cX2_isNumber 1 (some .boolean), Cond.methodLink RX2 138 yX2_stepsBetween, Cond.instanceMethod yX2_stepsBetween, Cond.selects RX2 yX2_stepsBetween yX2_stepsBetween, Cond.code yX2_stepsBetween cX2_stepsBetween 3 (some .int), Cond.methodLink RX2 72 yX2_isPrimitive, Cond.static yX2_isPrimitive, Cond.code yX2_isPrimitive cX2_isPrimitive 1 (some .boolean), Cond.methodLink RX2 144 yX2_stepBetweenPrimitives, Cond.static yX2_stepBetweenPrimitives, Cond.code yX2_stepBetweenPrimitives cX2_stepBetweenPrimitives 2 (some .int), Cond.methodLink RX2 156 yX2_isWider, Cond.static yX2_isWider, Cond.code yX2_isWider cX2_isWider 3 (some .boolean), Cond.methodLink RX2 147 yX2_stepsByBoxing, Cond.instanceMethod yX2_stepsByBoxing, Cond.selects RX2 yX2_stepsByBoxing yX2_stepsByBoxing, Cond.code yX2_stepsByBoxing cX2_stepsByBoxing 4 (some .int), Cond.fieldLink RX2 12 "ConversionTables" "types" "LConversionTables$TypeTable;", Cond.methodLink RX2 129 yX2_boxed]
def wsX2_allowedKind_r2 : List Cond := [Cond.static yX2_boxed, Cond.code yX2_boxed cX2_boxed 1 (some .int), Cond.methodLink RX2 75 yX1_isUnder, Cond.instanceMethod yX1_isUnder, Cond.selects RX1 yX1_isUnder yX1_isUnder, Cond.initialized RX1, Cond.code yX1_isUnder cX1_isUnder 3 (some .boolean), Cond.fieldLink RX1 22 "ConversionTables$TypeTable" "aboves" "[J", Cond.methodLink RX1 34 yX1_bit, Cond.static yX1_bit, Cond.code yX1_bit cX1_bit 1 (some .long), Cond.methodLink RX2 150 yX2_stepsByUnboxing, Cond.instanceMethod yX2_stepsByUnboxing, Cond.selects RX2 yX2_stepsByUnboxing yX2_stepsByUnboxing, Cond.code yX2_stepsByUnboxing cX2_stepsByUnboxing 4 (some .int), Cond.methodLink RX2 135 yX2_isBox, Cond.static yX2_isBox, Cond.code yX2_isBox cX2_isBox 1 (some .boolean), Cond.methodLink RX2 159 yX1_goesDown, Cond.instanceMethod yX1_goesDown, Cond.selects RX1 yX1_goesDown yX1_goesDown, Cond.code yX1_goesDown cX1_goesDown 6 (some .boolean), Cond.fieldLink RX1 19 "ConversionTables$TypeTable" "elements" "[I", Cond.methodLink RX1 59 yX1_isArrayOfReferences]
def wsX2_allowedKind_r3 : List Cond := [Cond.instanceMethod yX1_isArrayOfReferences, Cond.selects RX1 yX1_isArrayOfReferences yX1_isArrayOfReferences, Cond.code yX1_isArrayOfReferences cX1_isArrayOfReferences 2 (some .boolean), Cond.fieldLink RX1 9 "ConversionTables$TypeTable" "sorts" "[I", Cond.methodLink RX1 55 yX1_isUnder, Cond.methodLink RX1 63 yX1_mayShareObjects, Cond.instanceMethod yX1_mayShareObjects, Cond.selects RX1 yX1_mayShareObjects yX1_mayShareObjects, Cond.code yX1_mayShareObjects cX1_mayShareObjects 3 (some .boolean), Cond.methodLink RX1 66 yX1_isOpenClass, Cond.instanceMethod yX1_isOpenClass, Cond.selects RX1 yX1_isOpenClass yX1_isOpenClass, Cond.code yX1_isOpenClass cX1_isOpenClass 2 (some .boolean), Cond.fieldLink RX1 15 "ConversionTables$TypeTable" "finals" "[Z", Cond.methodLink RX2 115 yX2_withoutBox, Cond.static yX2_withoutBox, Cond.code yX2_withoutBox cX2_withoutBox 1 (some .int), Cond.methodLink RX2 153 yX2_stepBetweenReferences, Cond.instanceMethod yX2_stepBetweenReferences, Cond.selects RX2 yX2_stepBetweenReferences yX2_stepBetweenReferences, Cond.code yX2_stepBetweenReferences cX2_stepBetweenReferences 3 (some .int)]
def wsX2_allowedKind : List Cond := .code yX2_allowedKind cX2_allowedKind 5 (some .int) :: ((wsX2_allowedKind_r1 ++ (wsX2_allowedKind_r2 ++ wsX2_allowedKind_r3)) ++ wsX20 ++ wsX10 ++ (vx_atN 8).filter goodWord)
def wsX2_kind_r1 : List Cond := [Cond.fieldLink RX2 12 "ConversionTables" "types" "LConversionTables$TypeTable;", Cond.methodLink RX2 50 yX1_has, Cond.instanceMethod yX1_has, Cond.selects RX1 yX1_has yX1_has, Cond.initialized RX1, Cond.code yX1_has cX1_has 2 (some .boolean), Cond.fieldLink RX1 26 "ConversionTables$TypeTable" "size" "I", Cond.methodLink RX2 79 yX2_isContext, Cond.static yX2_isContext, Cond.initialized RX2, Cond.code yX2_isContext cX2_isContext 1 (some .boolean), Cond.methodLink RX2 82 yX2_allowedKind, Cond.instanceMethod yX2_allowedKind, Cond.selects RX2 yX2_allowedKind yX2_allowedKind, Cond.code yX2_allowedKind cX2_allowedKind 5 (some .int), Cond.fieldLink RX2 141 "ConversionTables" "ALLOWED_KINDS" "[I", Cond.methodLink RX2 101 yX2_isNumber, Cond.static yX2_isNumber, Cond.code yX2_isNumber cX2_isNumber 1 (some .boolean), Cond.methodLink RX2 138 yX2_stepsBetween, Cond.instanceMethod yX2_stepsBetween, Cond.selects RX2 yX2_stepsBetween yX2_stepsBetween, Cond.code yX2_stepsBetween cX2_stepsBetween 3 (some .int), Cond.methodLink RX2 72 yX2_isPrimitive]
def wsX2_kind_r2 : List Cond := [Cond.static yX2_isPrimitive, Cond.code yX2_isPrimitive cX2_isPrimitive 1 (some .boolean), Cond.methodLink RX2 144 yX2_stepBetweenPrimitives, Cond.static yX2_stepBetweenPrimitives, Cond.code yX2_stepBetweenPrimitives cX2_stepBetweenPrimitives 2 (some .int), Cond.methodLink RX2 156 yX2_isWider, Cond.static yX2_isWider, Cond.code yX2_isWider cX2_isWider 3 (some .boolean), Cond.methodLink RX2 147 yX2_stepsByBoxing, Cond.instanceMethod yX2_stepsByBoxing, Cond.selects RX2 yX2_stepsByBoxing yX2_stepsByBoxing, Cond.code yX2_stepsByBoxing cX2_stepsByBoxing 4 (some .int), Cond.methodLink RX2 129 yX2_boxed, Cond.static yX2_boxed, Cond.code yX2_boxed cX2_boxed 1 (some .int), Cond.methodLink RX2 75 yX1_isUnder, Cond.instanceMethod yX1_isUnder, Cond.selects RX1 yX1_isUnder yX1_isUnder, Cond.code yX1_isUnder cX1_isUnder 3 (some .boolean), Cond.fieldLink RX1 22 "ConversionTables$TypeTable" "aboves" "[J", Cond.methodLink RX1 34 yX1_bit, Cond.static yX1_bit, Cond.code yX1_bit cX1_bit 1 (some .long), Cond.methodLink RX2 150 yX2_stepsByUnboxing]
def wsX2_kind_r3 : List Cond := [Cond.instanceMethod yX2_stepsByUnboxing, Cond.selects RX2 yX2_stepsByUnboxing yX2_stepsByUnboxing, Cond.code yX2_stepsByUnboxing cX2_stepsByUnboxing 4 (some .int), Cond.methodLink RX2 135 yX2_isBox, Cond.static yX2_isBox, Cond.code yX2_isBox cX2_isBox 1 (some .boolean), Cond.methodLink RX2 159 yX1_goesDown, Cond.instanceMethod yX1_goesDown, Cond.selects RX1 yX1_goesDown yX1_goesDown, Cond.code yX1_goesDown cX1_goesDown 6 (some .boolean), Cond.fieldLink RX1 19 "ConversionTables$TypeTable" "elements" "[I", Cond.methodLink RX1 59 yX1_isArrayOfReferences, Cond.instanceMethod yX1_isArrayOfReferences, Cond.selects RX1 yX1_isArrayOfReferences yX1_isArrayOfReferences, Cond.code yX1_isArrayOfReferences cX1_isArrayOfReferences 2 (some .boolean), Cond.fieldLink RX1 9 "ConversionTables$TypeTable" "sorts" "[I", Cond.methodLink RX1 55 yX1_isUnder, Cond.methodLink RX1 63 yX1_mayShareObjects, Cond.instanceMethod yX1_mayShareObjects, Cond.selects RX1 yX1_mayShareObjects yX1_mayShareObjects, Cond.code yX1_mayShareObjects cX1_mayShareObjects 3 (some .boolean), Cond.methodLink RX1 66 yX1_isOpenClass, Cond.instanceMethod yX1_isOpenClass, Cond.selects RX1 yX1_isOpenClass yX1_isOpenClass]
def wsX2_kind_r4 : List Cond := [Cond.code yX1_isOpenClass cX1_isOpenClass 2 (some .boolean), Cond.fieldLink RX1 15 "ConversionTables$TypeTable" "finals" "[Z", Cond.methodLink RX2 115 yX2_withoutBox, Cond.static yX2_withoutBox, Cond.code yX2_withoutBox cX2_withoutBox 1 (some .int), Cond.methodLink RX2 153 yX2_stepBetweenReferences, Cond.instanceMethod yX2_stepBetweenReferences, Cond.selects RX2 yX2_stepBetweenReferences yX2_stepBetweenReferences, Cond.code yX2_stepBetweenReferences cX2_stepBetweenReferences 3 (some .int)]
def wsX2_kind : List Cond := .code yX2_kind cX2_kind 4 (some .int) :: ((wsX2_kind_r1 ++ (wsX2_kind_r2 ++ (wsX2_kind_r3 ++ wsX2_kind_r4))) ++ wsX20 ++ wsX10 ++ (vx_atN 8).filter goodWord)
def wsX2_isWhole : List Cond := .code yX2_isWhole cX2_isWhole 1 (some .boolean) :: ([])
def wsX2_areBitsOf : List Cond := .code yX2_areBitsOf cX2_areBitsOf 3 (some .boolean) :: ([.fieldLink RX2 162 "ConversionTables" "LEAST_BITS" "[J", .fieldLink RX2 165 "ConversionTables" "GREATEST_BITS" "[J"] ++ (vx_atN 8).filter goodWord)
def wsX2_constantFits : List Cond := .code yX2_constantFits cX2_constantFits 5 (some .boolean) :: ([.methodLink RX2 115 yX2_withoutBox, .static yX2_withoutBox, .initialized RX2, .code yX2_withoutBox cX2_withoutBox 1 (some .int), .methodLink RX2 135 yX2_isBox, .static yX2_isBox, .code yX2_isBox cX2_isBox 1 (some .boolean), .methodLink RX2 89 yX2_areBitsOf, .static yX2_areBitsOf, .code yX2_areBitsOf cX2_areBitsOf 3 (some .boolean), .fieldLink RX2 162 "ConversionTables" "LEAST_BITS" "[J", .fieldLink RX2 165 "ConversionTables" "GREATEST_BITS" "[J"] ++ (vx_atN 8).filter goodWord)
def wsX2_given_r1 : List Cond := [Cond.fieldLink RX2 12 "ConversionTables" "types" "LConversionTables$TypeTable;", Cond.methodLink RX2 50 yX1_has, Cond.instanceMethod yX1_has, Cond.selects RX1 yX1_has yX1_has, Cond.initialized RX1, Cond.code yX1_has cX1_has 2 (some .boolean), Cond.fieldLink RX1 26 "ConversionTables$TypeTable" "size" "I", Cond.methodLink RX2 86 yX2_isWhole, Cond.static yX2_isWhole, Cond.initialized RX2, Cond.code yX2_isWhole cX2_isWhole 1 (some .boolean), Cond.methodLink RX2 89 yX2_areBitsOf, Cond.static yX2_areBitsOf, Cond.code yX2_areBitsOf cX2_areBitsOf 3 (some .boolean), Cond.fieldLink RX2 162 "ConversionTables" "LEAST_BITS" "[J", Cond.fieldLink RX2 165 "ConversionTables" "GREATEST_BITS" "[J", Cond.methodLink RX2 82 yX2_allowedKind, Cond.instanceMethod yX2_allowedKind, Cond.selects RX2 yX2_allowedKind yX2_allowedKind, Cond.code yX2_allowedKind cX2_allowedKind 5 (some .int), Cond.fieldLink RX2 141 "ConversionTables" "ALLOWED_KINDS" "[I", Cond.methodLink RX2 101 yX2_isNumber, Cond.static yX2_isNumber, Cond.code yX2_isNumber cX2_isNumber 1 (some .boolean)]
def wsX2_given_r2 : List Cond := [Cond.methodLink RX2 138 yX2_stepsBetween, Cond.instanceMethod yX2_stepsBetween, Cond.selects RX2 yX2_stepsBetween yX2_stepsBetween, Cond.code yX2_stepsBetween cX2_stepsBetween 3 (some .int), Cond.methodLink RX2 72 yX2_isPrimitive, Cond.static yX2_isPrimitive, Cond.code yX2_isPrimitive cX2_isPrimitive 1 (some .boolean), Cond.methodLink RX2 144 yX2_stepBetweenPrimitives, Cond.static yX2_stepBetweenPrimitives, Cond.code yX2_stepBetweenPrimitives cX2_stepBetweenPrimitives 2 (some .int), Cond.methodLink RX2 156 yX2_isWider, Cond.static yX2_isWider, Cond.code yX2_isWider cX2_isWider 3 (some .boolean), Cond.methodLink RX2 147 yX2_stepsByBoxing, Cond.instanceMethod yX2_stepsByBoxing, Cond.selects RX2 yX2_stepsByBoxing yX2_stepsByBoxing, Cond.code yX2_stepsByBoxing cX2_stepsByBoxing 4 (some .int), Cond.methodLink RX2 129 yX2_boxed, Cond.static yX2_boxed, Cond.code yX2_boxed cX2_boxed 1 (some .int), Cond.methodLink RX2 75 yX1_isUnder, Cond.instanceMethod yX1_isUnder, Cond.selects RX1 yX1_isUnder yX1_isUnder, Cond.code yX1_isUnder cX1_isUnder 3 (some .boolean)]
def wsX2_given_r3 : List Cond := [Cond.fieldLink RX1 22 "ConversionTables$TypeTable" "aboves" "[J", Cond.methodLink RX1 34 yX1_bit, Cond.static yX1_bit, Cond.code yX1_bit cX1_bit 1 (some .long), Cond.methodLink RX2 150 yX2_stepsByUnboxing, Cond.instanceMethod yX2_stepsByUnboxing, Cond.selects RX2 yX2_stepsByUnboxing yX2_stepsByUnboxing, Cond.code yX2_stepsByUnboxing cX2_stepsByUnboxing 4 (some .int), Cond.methodLink RX2 135 yX2_isBox, Cond.static yX2_isBox, Cond.code yX2_isBox cX2_isBox 1 (some .boolean), Cond.methodLink RX2 159 yX1_goesDown, Cond.instanceMethod yX1_goesDown, Cond.selects RX1 yX1_goesDown yX1_goesDown, Cond.code yX1_goesDown cX1_goesDown 6 (some .boolean), Cond.fieldLink RX1 19 "ConversionTables$TypeTable" "elements" "[I", Cond.methodLink RX1 59 yX1_isArrayOfReferences, Cond.instanceMethod yX1_isArrayOfReferences, Cond.selects RX1 yX1_isArrayOfReferences yX1_isArrayOfReferences, Cond.code yX1_isArrayOfReferences cX1_isArrayOfReferences 2 (some .boolean), Cond.fieldLink RX1 9 "ConversionTables$TypeTable" "sorts" "[I", Cond.methodLink RX1 55 yX1_isUnder, Cond.methodLink RX1 63 yX1_mayShareObjects, Cond.instanceMethod yX1_mayShareObjects]
def wsX2_given_r4 : List Cond := [Cond.selects RX1 yX1_mayShareObjects yX1_mayShareObjects, Cond.code yX1_mayShareObjects cX1_mayShareObjects 3 (some .boolean), Cond.methodLink RX1 66 yX1_isOpenClass, Cond.instanceMethod yX1_isOpenClass, Cond.selects RX1 yX1_isOpenClass yX1_isOpenClass, Cond.code yX1_isOpenClass cX1_isOpenClass 2 (some .boolean), Cond.fieldLink RX1 15 "ConversionTables$TypeTable" "finals" "[Z", Cond.methodLink RX2 115 yX2_withoutBox, Cond.static yX2_withoutBox, Cond.code yX2_withoutBox cX2_withoutBox 1 (some .int), Cond.methodLink RX2 153 yX2_stepBetweenReferences, Cond.instanceMethod yX2_stepBetweenReferences, Cond.selects RX2 yX2_stepBetweenReferences yX2_stepBetweenReferences, Cond.code yX2_stepBetweenReferences cX2_stepBetweenReferences 3 (some .int), Cond.methodLink RX2 93 yX2_constantFits, Cond.static yX2_constantFits, Cond.code yX2_constantFits cX2_constantFits 5 (some .boolean)]
def wsX2_given : List Cond := .code yX2_given cX2_given 6 (some .int) :: ((wsX2_given_r1 ++ (wsX2_given_r2 ++ (wsX2_given_r3 ++ wsX2_given_r4))) ++ wsX20 ++ wsX10 ++ (vx_atN 8).filter goodWord)
def wsX2_targets_r1 : List Cond := [Cond.fieldLink RX2 12 "ConversionTables" "types" "LConversionTables$TypeTable;", Cond.methodLink RX2 50 yX1_has, Cond.instanceMethod yX1_has, Cond.selects RX1 yX1_has yX1_has, Cond.initialized RX1, Cond.code yX1_has cX1_has 2 (some .boolean), Cond.fieldLink RX1 26 "ConversionTables$TypeTable" "size" "I", Cond.methodLink RX2 79 yX2_isContext, Cond.static yX2_isContext, Cond.initialized RX2, Cond.code yX2_isContext cX2_isContext 1 (some .boolean), Cond.methodLink RX2 97 yX1_size, Cond.instanceMethod yX1_size, Cond.selects RX1 yX1_size yX1_size, Cond.code yX1_size cX1_size 1 (some .int), Cond.methodLink RX2 82 yX2_allowedKind, Cond.instanceMethod yX2_allowedKind, Cond.selects RX2 yX2_allowedKind yX2_allowedKind, Cond.code yX2_allowedKind cX2_allowedKind 5 (some .int), Cond.fieldLink RX2 141 "ConversionTables" "ALLOWED_KINDS" "[I", Cond.methodLink RX2 101 yX2_isNumber, Cond.static yX2_isNumber, Cond.code yX2_isNumber cX2_isNumber 1 (some .boolean), Cond.methodLink RX2 138 yX2_stepsBetween]
def wsX2_targets_r2 : List Cond := [Cond.instanceMethod yX2_stepsBetween, Cond.selects RX2 yX2_stepsBetween yX2_stepsBetween, Cond.code yX2_stepsBetween cX2_stepsBetween 3 (some .int), Cond.methodLink RX2 72 yX2_isPrimitive, Cond.static yX2_isPrimitive, Cond.code yX2_isPrimitive cX2_isPrimitive 1 (some .boolean), Cond.methodLink RX2 144 yX2_stepBetweenPrimitives, Cond.static yX2_stepBetweenPrimitives, Cond.code yX2_stepBetweenPrimitives cX2_stepBetweenPrimitives 2 (some .int), Cond.methodLink RX2 156 yX2_isWider, Cond.static yX2_isWider, Cond.code yX2_isWider cX2_isWider 3 (some .boolean), Cond.methodLink RX2 147 yX2_stepsByBoxing, Cond.instanceMethod yX2_stepsByBoxing, Cond.selects RX2 yX2_stepsByBoxing yX2_stepsByBoxing, Cond.code yX2_stepsByBoxing cX2_stepsByBoxing 4 (some .int), Cond.methodLink RX2 129 yX2_boxed, Cond.static yX2_boxed, Cond.code yX2_boxed cX2_boxed 1 (some .int), Cond.methodLink RX2 75 yX1_isUnder, Cond.instanceMethod yX1_isUnder, Cond.selects RX1 yX1_isUnder yX1_isUnder, Cond.code yX1_isUnder cX1_isUnder 3 (some .boolean), Cond.fieldLink RX1 22 "ConversionTables$TypeTable" "aboves" "[J"]
def wsX2_targets_r3 : List Cond := [Cond.methodLink RX1 34 yX1_bit, Cond.static yX1_bit, Cond.code yX1_bit cX1_bit 1 (some .long), Cond.methodLink RX2 150 yX2_stepsByUnboxing, Cond.instanceMethod yX2_stepsByUnboxing, Cond.selects RX2 yX2_stepsByUnboxing yX2_stepsByUnboxing, Cond.code yX2_stepsByUnboxing cX2_stepsByUnboxing 4 (some .int), Cond.methodLink RX2 135 yX2_isBox, Cond.static yX2_isBox, Cond.code yX2_isBox cX2_isBox 1 (some .boolean), Cond.methodLink RX2 159 yX1_goesDown, Cond.instanceMethod yX1_goesDown, Cond.selects RX1 yX1_goesDown yX1_goesDown, Cond.code yX1_goesDown cX1_goesDown 6 (some .boolean), Cond.fieldLink RX1 19 "ConversionTables$TypeTable" "elements" "[I", Cond.methodLink RX1 59 yX1_isArrayOfReferences, Cond.instanceMethod yX1_isArrayOfReferences, Cond.selects RX1 yX1_isArrayOfReferences yX1_isArrayOfReferences, Cond.code yX1_isArrayOfReferences cX1_isArrayOfReferences 2 (some .boolean), Cond.fieldLink RX1 9 "ConversionTables$TypeTable" "sorts" "[I", Cond.methodLink RX1 55 yX1_isUnder, Cond.methodLink RX1 63 yX1_mayShareObjects, Cond.instanceMethod yX1_mayShareObjects, Cond.selects RX1 yX1_mayShareObjects yX1_mayShareObjects]
def wsX2_targets_r4 : List Cond := [Cond.code yX1_mayShareObjects cX1_mayShareObjects 3 (some .boolean), Cond.methodLink RX1 66 yX1_isOpenClass, Cond.instanceMethod yX1_isOpenClass, Cond.selects RX1 yX1_isOpenClass yX1_isOpenClass, Cond.code yX1_isOpenClass cX1_isOpenClass 2 (some .boolean), Cond.fieldLink RX1 15 "ConversionTables$TypeTable" "finals" "[Z", Cond.methodLink RX2 115 yX2_withoutBox, Cond.static yX2_withoutBox, Cond.code yX2_withoutBox cX2_withoutBox 1 (some .int), Cond.methodLink RX2 153 yX2_stepBetweenReferences, Cond.instanceMethod yX2_stepBetweenReferences, Cond.selects RX2 yX2_stepBetweenReferences yX2_stepBetweenReferences, Cond.code yX2_stepBetweenReferences cX2_stepBetweenReferences 3 (some .int)]
def wsX2_targets : List Cond := .code yX2_targets cX2_targets 5 (some .int) :: ((wsX2_targets_r1 ++ (wsX2_targets_r2 ++ (wsX2_targets_r3 ++ wsX2_targets_r4))) ++ wsX20 ++ wsX10 ++ (vx_atN 8).filter goodWord)
def wsX2_lowestBits : List Cond := .code yX2_lowestBits cX2_lowestBits 3 (some .long) :: ([])
def wsX2_formatOf : List Cond := .code yX2_formatOf cX2_formatOf 1 (some (.object "ConversionTables$Format")) :: ([.fieldLink RX2 168 "ConversionTables$Format" "OF_FLOAT" "LConversionTables$Format;", .fieldLink RX2 174 "ConversionTables$Format" "OF_DOUBLE" "LConversionTables$Format;"])
def wsX2_nearestInt : List Cond := .code yX2_nearestInt cX2_nearestInt 2 (some .long) :: ([.fieldLink RX2 162 "ConversionTables" "LEAST_BITS" "[J", .fieldLink RX2 165 "ConversionTables" "GREATEST_BITS" "[J", .methodLink RX2 199 Lib.MathLoose.min_long.x, .static Lib.MathLoose.min_long.x, .initialized "java/lang/Math", .code Lib.MathLoose.min_long.x Lib.MathLoose.min_long.code 4 (some .long), .methodLink RX2 203 Lib.MathLoose.max_long.x, .static Lib.MathLoose.max_long.x, .code Lib.MathLoose.max_long.x Lib.MathLoose.max_long.code 4 (some .long)] ++ (vx_atN 8).filter goodWord)
def wsX2_turnedToWhole_r1 : List Cond := [Cond.methodLink RX2 86 yX2_isWhole, Cond.static yX2_isWhole, Cond.initialized RX2, Cond.code yX2_isWhole cX2_isWhole 1 (some .boolean), Cond.methodLink RX2 189 yX2_lowestBits, Cond.static yX2_lowestBits, Cond.code yX2_lowestBits cX2_lowestBits 3 (some .long), Cond.methodLink RX2 177 yX2_formatOf, Cond.static yX2_formatOf, Cond.code yX2_formatOf cX2_formatOf 1 (some (.object "ConversionTables$Format")), Cond.fieldLink RX2 168 "ConversionTables$Format" "OF_FLOAT" "LConversionTables$Format;", Cond.fieldLink RX2 174 "ConversionTables$Format" "OF_DOUBLE" "LConversionTables$Format;", Cond.methodLink RX2 193 yX0_toLong, Cond.instanceMethod yX0_toLong, Cond.selects RX0 yX0_toLong yX0_toLong, Cond.initialized RX0, Cond.code yX0_toLong cX0_toLong 9 (some .long), Cond.fieldLink RX0 36 "ConversionTables$Format" "infinity" "J", Cond.constantLong RX0 79 (-9223372036854775808), Cond.constantLong RX0 81 (9223372036854775807), Cond.methodLink RX0 48 yX0_withoutSign, Cond.instanceMethod yX0_withoutSign, Cond.selects RX0 yX0_withoutSign yX0_withoutSign, Cond.code yX0_withoutSign cX0_withoutSign 3 (some .long)]
def wsX2_turnedToWhole_r2 : List Cond := [Cond.fieldLink RX0 43 "ConversionTables$Format" "sign" "J", Cond.constantLong RX0 46 (-1), Cond.methodLink RX0 69 yX0_significand, Cond.instanceMethod yX0_significand, Cond.selects RX0 yX0_significand yX0_significand, Cond.code yX0_significand cX0_significand 7 (some .long), Cond.fieldLink RX0 29 "ConversionTables$Format" "precision" "I", Cond.methodLink RX0 52 yX0_exponentField, Cond.instanceMethod yX0_exponentField, Cond.selects RX0 yX0_exponentField yX0_exponentField, Cond.code yX0_exponentField cX0_exponentField 3 (some .long), Cond.methodLink RX0 72 yX0_exponent, Cond.instanceMethod yX0_exponent, Cond.selects RX0 yX0_exponent yX0_exponent, Cond.code yX0_exponent cX0_exponent 3 (some .int), Cond.fieldLink RX0 33 "ConversionTables$Format" "lowestExponent" "I", Cond.methodLink RX0 55 Lib.MathLoose.max_long.x, Cond.static Lib.MathLoose.max_long.x, Cond.initialized "java/lang/Math", Cond.code Lib.MathLoose.max_long.x Lib.MathLoose.max_long.code 4 (some .long), Cond.methodLink RX0 76 yX0_widthOf, Cond.static yX0_widthOf, Cond.code yX0_widthOf cX0_widthOf 2 (some .int), Cond.methodLink RX0 86 yJ13_numberOfLeadingZeros_95d88]
def wsX2_turnedToWhole_r3 : List Cond := [Cond.static yJ13_numberOfLeadingZeros_95d88, Cond.initialized RJ13, Cond.code yJ13_numberOfLeadingZeros_95d88 cJ13_numberOfLeadingZeros_95d88 3 (some .int), Cond.methodLink RJ13 308 yJ6_numberOfLeadingZeros_0f7a4, Cond.static yJ6_numberOfLeadingZeros_0f7a4, Cond.initialized RJ6, Cond.code yJ6_numberOfLeadingZeros_0f7a4 cJ6_numberOfLeadingZeros_0f7a4 2 (some .int), Cond.constant RJ6 264 (65536), Cond.methodLink RX0 83 yX0_shifted, Cond.static yX0_shifted, Cond.code yX0_shifted cX0_shifted 3 (some .long), Cond.methodLink RX2 196 yX2_nearestInt, Cond.static yX2_nearestInt, Cond.code yX2_nearestInt cX2_nearestInt 2 (some .long), Cond.fieldLink RX2 162 "ConversionTables" "LEAST_BITS" "[J", Cond.fieldLink RX2 165 "ConversionTables" "GREATEST_BITS" "[J", Cond.methodLink RX2 199 Lib.MathLoose.min_long.x, Cond.static Lib.MathLoose.min_long.x, Cond.code Lib.MathLoose.min_long.x Lib.MathLoose.min_long.code 4 (some .long), Cond.methodLink RX2 203 Lib.MathLoose.max_long.x]
def wsX2_turnedToWhole : List Cond := .code yX2_turnedToWhole cX2_turnedToWhole 6 (some .long) :: ((wsX2_turnedToWhole_r1 ++ (wsX2_turnedToWhole_r2 ++ wsX2_turnedToWhole_r3)) ++ (vx_atN 8).filter goodWord)
def wsX2_turnedToFloating_r1 : List Cond := [Cond.methodLink RX2 86 yX2_isWhole, Cond.static yX2_isWhole, Cond.initialized RX2, Cond.code yX2_isWhole cX2_isWhole 1 (some .boolean), Cond.methodLink RX2 177 yX2_formatOf, Cond.static yX2_formatOf, Cond.code yX2_formatOf cX2_formatOf 1 (some (.object "ConversionTables$Format")), Cond.fieldLink RX2 168 "ConversionTables$Format" "OF_FLOAT" "LConversionTables$Format;", Cond.fieldLink RX2 174 "ConversionTables$Format" "OF_DOUBLE" "LConversionTables$Format;", Cond.methodLink RX2 181 yX0_fromLong, Cond.instanceMethod yX0_fromLong, Cond.selects RX0 yX0_fromLong yX0_fromLong, Cond.initialized RX0, Cond.code yX0_fromLong cX0_fromLong 4 (some .long), Cond.methodLink RX0 61 yX0_nearest, Cond.instanceMethod yX0_nearest, Cond.selects RX0 yX0_nearest yX0_nearest, Cond.code yX0_nearest cX0_nearest 9 (some .long), Cond.fieldLink RX0 29 "ConversionTables$Format" "precision" "I", Cond.fieldLink RX0 33 "ConversionTables$Format" "lowestExponent" "I", Cond.methodLink RX0 91 Lib.Math.max.name, Cond.static Lib.Math.max.name, Cond.initialized "java/lang/Math", Cond.code Lib.Math.max.name Lib.Math.max.code 2 (some .int)]
def wsX2_turnedToFloating_r2 : List Cond := [Cond.fieldLink RX0 36 "ConversionTables$Format" "infinity" "J", Cond.methodLink RX0 97 Lib.MathLoose.min_long.x, Cond.static Lib.MathLoose.min_long.x, Cond.code Lib.MathLoose.min_long.x Lib.MathLoose.min_long.code 4 (some .long), Cond.methodLink RX0 76 yX0_widthOf, Cond.static yX0_widthOf, Cond.code yX0_widthOf cX0_widthOf 2 (some .int), Cond.methodLink RX0 86 yJ13_numberOfLeadingZeros_95d88, Cond.static yJ13_numberOfLeadingZeros_95d88, Cond.initialized RJ13, Cond.code yJ13_numberOfLeadingZeros_95d88 cJ13_numberOfLeadingZeros_95d88 3 (some .int), Cond.methodLink RJ13 308 yJ6_numberOfLeadingZeros_0f7a4, Cond.static yJ6_numberOfLeadingZeros_0f7a4, Cond.initialized RJ6, Cond.code yJ6_numberOfLeadingZeros_0f7a4 cJ6_numberOfLeadingZeros_0f7a4 2 (some .int), Cond.constant RJ6 264 (65536), Cond.methodLink RX0 94 yX0_rounded, Cond.static yX0_rounded, Cond.code yX0_rounded cX0_rounded 10 (some .long), Cond.methodLink RX0 65 yX0_withSign, Cond.instanceMethod yX0_withSign, Cond.selects RX0 yX0_withSign yX0_withSign, Cond.code yX0_withSign cX0_withSign 4 (some .long), Cond.fieldLink RX0 43 "ConversionTables$Format" "sign" "J"]
def wsX2_turnedToFloating_r3 : List Cond := [Cond.methodLink RX2 185 yX0_fromFormat, Cond.instanceMethod yX0_fromFormat, Cond.selects RX0 yX0_fromFormat yX0_fromFormat, Cond.code yX0_fromFormat cX0_fromFormat 7 (some .long), Cond.fieldLink RX0 40 "ConversionTables$Format" "nan" "J", Cond.methodLink RX0 48 yX0_withoutSign, Cond.instanceMethod yX0_withoutSign, Cond.selects RX0 yX0_withoutSign yX0_withoutSign, Cond.code yX0_withoutSign cX0_withoutSign 3 (some .long), Cond.constantLong RX0 46 (-1), Cond.methodLink RX0 69 yX0_significand, Cond.instanceMethod yX0_significand, Cond.selects RX0 yX0_significand yX0_significand, Cond.code yX0_significand cX0_significand 7 (some .long), Cond.methodLink RX0 52 yX0_exponentField, Cond.instanceMethod yX0_exponentField, Cond.selects RX0 yX0_exponentField yX0_exponentField, Cond.code yX0_exponentField cX0_exponentField 3 (some .long), Cond.methodLink RX0 72 yX0_exponent, Cond.instanceMethod yX0_exponent, Cond.selects RX0 yX0_exponent yX0_exponent, Cond.code yX0_exponent cX0_exponent 3 (some .int), Cond.methodLink RX0 55 Lib.MathLoose.max_long.x, Cond.static Lib.MathLoose.max_long.x]
def wsX2_turnedToFloating_r4 : List Cond := [Cond.code Lib.MathLoose.max_long.x Lib.MathLoose.max_long.code 4 (some .long)]
def wsX2_turnedToFloating : List Cond := .code yX2_turnedToFloating cX2_turnedToFloating 4 (some .long) :: ((wsX2_turnedToFloating_r1 ++ (wsX2_turnedToFloating_r2 ++ (wsX2_turnedToFloating_r3 ++ wsX2_turnedToFloating_r4))) ++ (vx_atN 8).filter goodWord)
def wsX2_turned_r1 : List Cond := [Cond.constantLong RX2 104 (-1), Cond.constantLong RX2 106 (-2), Cond.methodLink RX2 101 yX2_isNumber, Cond.static yX2_isNumber, Cond.initialized RX2, Cond.code yX2_isNumber cX2_isNumber 1 (some .boolean), Cond.methodLink RX2 89 yX2_areBitsOf, Cond.static yX2_areBitsOf, Cond.code yX2_areBitsOf cX2_areBitsOf 3 (some .boolean), Cond.fieldLink RX2 162 "ConversionTables" "LEAST_BITS" "[J", Cond.fieldLink RX2 165 "ConversionTables" "GREATEST_BITS" "[J", Cond.methodLink RX2 86 yX2_isWhole, Cond.static yX2_isWhole, Cond.code yX2_isWhole cX2_isWhole 1 (some .boolean), Cond.methodLink RX2 108 yX2_turnedToWhole, Cond.static yX2_turnedToWhole, Cond.code yX2_turnedToWhole cX2_turnedToWhole 6 (some .long), Cond.methodLink RX2 189 yX2_lowestBits, Cond.static yX2_lowestBits, Cond.code yX2_lowestBits cX2_lowestBits 3 (some .long), Cond.methodLink RX2 177 yX2_formatOf, Cond.static yX2_formatOf, Cond.code yX2_formatOf cX2_formatOf 1 (some (.object "ConversionTables$Format")), Cond.fieldLink RX2 168 "ConversionTables$Format" "OF_FLOAT" "LConversionTables$Format;"]
def wsX2_turned_r2 : List Cond := [Cond.fieldLink RX2 174 "ConversionTables$Format" "OF_DOUBLE" "LConversionTables$Format;", Cond.methodLink RX2 193 yX0_toLong, Cond.instanceMethod yX0_toLong, Cond.selects RX0 yX0_toLong yX0_toLong, Cond.initialized RX0, Cond.code yX0_toLong cX0_toLong 9 (some .long), Cond.fieldLink RX0 36 "ConversionTables$Format" "infinity" "J", Cond.constantLong RX0 79 (-9223372036854775808), Cond.constantLong RX0 81 (9223372036854775807), Cond.methodLink RX0 48 yX0_withoutSign, Cond.instanceMethod yX0_withoutSign, Cond.selects RX0 yX0_withoutSign yX0_withoutSign, Cond.code yX0_withoutSign cX0_withoutSign 3 (some .long), Cond.fieldLink RX0 43 "ConversionTables$Format" "sign" "J", Cond.constantLong RX0 46 (-1), Cond.methodLink RX0 69 yX0_significand, Cond.instanceMethod yX0_significand, Cond.selects RX0 yX0_significand yX0_significand, Cond.code yX0_significand cX0_significand 7 (some .long), Cond.fieldLink RX0 29 "ConversionTables$Format" "precision" "I", Cond.methodLink RX0 52 yX0_exponentField, Cond.instanceMethod yX0_exponentField, Cond.selects RX0 yX0_exponentField yX0_exponentField, Cond.code yX0_exponentField cX0_exponentField 3 (some .long)]
def wsX2_turned_r3 : List Cond := [Cond.methodLink RX0 72 yX0_exponent, Cond.instanceMethod yX0_exponent, Cond.selects RX0 yX0_exponent yX0_exponent, Cond.code yX0_exponent cX0_exponent 3 (some .int), Cond.fieldLink RX0 33 "ConversionTables$Format" "lowestExponent" "I", Cond.methodLink RX0 55 Lib.MathLoose.max_long.x, Cond.static Lib.MathLoose.max_long.x, Cond.initialized "java/lang/Math", Cond.code Lib.MathLoose.max_long.x Lib.MathLoose.max_long.code 4 (some .long), Cond.methodLink RX0 76 yX0_widthOf, Cond.static yX0_widthOf, Cond.code yX0_widthOf cX0_widthOf 2 (some .int), Cond.methodLink RX0 86 yJ13_numberOfLeadingZeros_95d88, Cond.static yJ13_numberOfLeadingZeros_95d88, Cond.initialized RJ13, Cond.code yJ13_numberOfLeadingZeros_95d88 cJ13_numberOfLeadingZeros_95d88 3 (some .int), Cond.methodLink RJ13 308 yJ6_numberOfLeadingZeros_0f7a4, Cond.static yJ6_numberOfLeadingZeros_0f7a4, Cond.initialized RJ6, Cond.code yJ6_numberOfLeadingZeros_0f7a4 cJ6_numberOfLeadingZeros_0f7a4 2 (some .int), Cond.constant RJ6 264 (65536), Cond.methodLink RX0 83 yX0_shifted, Cond.static yX0_shifted, Cond.code yX0_shifted cX0_shifted 3 (some .long)]
def wsX2_turned_r4 : List Cond := [Cond.methodLink RX2 196 yX2_nearestInt, Cond.static yX2_nearestInt, Cond.code yX2_nearestInt cX2_nearestInt 2 (some .long), Cond.methodLink RX2 199 Lib.MathLoose.min_long.x, Cond.static Lib.MathLoose.min_long.x, Cond.code Lib.MathLoose.min_long.x Lib.MathLoose.min_long.code 4 (some .long), Cond.methodLink RX2 203 Lib.MathLoose.max_long.x, Cond.methodLink RX2 112 yX2_turnedToFloating, Cond.static yX2_turnedToFloating, Cond.code yX2_turnedToFloating cX2_turnedToFloating 4 (some .long), Cond.methodLink RX2 181 yX0_fromLong, Cond.instanceMethod yX0_fromLong, Cond.selects RX0 yX0_fromLong yX0_fromLong, Cond.code yX0_fromLong cX0_fromLong 4 (some .long), Cond.methodLink RX0 61 yX0_nearest, Cond.instanceMethod yX0_nearest, Cond.selects RX0 yX0_nearest yX0_nearest, Cond.code yX0_nearest cX0_nearest 9 (some .long), Cond.methodLink RX0 91 Lib.Math.max.name, Cond.static Lib.Math.max.name, Cond.code Lib.Math.max.name Lib.Math.max.code 2 (some .int), Cond.methodLink RX0 97 Lib.MathLoose.min_long.x, Cond.methodLink RX0 94 yX0_rounded, Cond.static yX0_rounded]
def wsX2_turned_r5 : List Cond := [Cond.code yX0_rounded cX0_rounded 10 (some .long), Cond.methodLink RX0 65 yX0_withSign, Cond.instanceMethod yX0_withSign, Cond.selects RX0 yX0_withSign yX0_withSign, Cond.code yX0_withSign cX0_withSign 4 (some .long), Cond.methodLink RX2 185 yX0_fromFormat, Cond.instanceMethod yX0_fromFormat, Cond.selects RX0 yX0_fromFormat yX0_fromFormat, Cond.code yX0_fromFormat cX0_fromFormat 7 (some .long), Cond.fieldLink RX0 40 "ConversionTables$Format" "nan" "J"]
def wsX2_turned : List Cond := .code yX2_turned cX2_turned 5 (some .long) :: ((wsX2_turned_r1 ++ (wsX2_turned_r2 ++ (wsX2_turned_r3 ++ (wsX2_turned_r4 ++ wsX2_turned_r5)))) ++ (vx_atN 8).filter goodWord)
def wsX2_promoted : List Cond := .code yX2_promoted cX2_promoted 3 (some .int) :: ([.fieldLink RX2 12 "ConversionTables" "types" "LConversionTables$TypeTable;", .methodLink RX2 118 Lib.Math.max.name, .static Lib.Math.max.name, .initialized "java/lang/Math", .code Lib.Math.max.name Lib.Math.max.code 2 (some .int), .methodLink RX2 50 yX1_has, .instanceMethod yX1_has, .selects RX1 yX1_has yX1_has, .initialized RX1, .code yX1_has cX1_has 2 (some .boolean), .fieldLink RX1 26 "ConversionTables$TypeTable" "size" "I", .methodLink RX2 115 yX2_withoutBox, .static yX2_withoutBox, .initialized RX2, .code yX2_withoutBox cX2_withoutBox 1 (some .int), .methodLink RX2 135 yX2_isBox, .static yX2_isBox, .code yX2_isBox cX2_isBox 1 (some .boolean), .methodLink RX2 101 yX2_isNumber, .static yX2_isNumber, .code yX2_isNumber cX2_isNumber 1 (some .boolean)] ++ wsX20 ++ wsX10 ++ (vx_atN 8).filter goodWord)
def wsX2_promotedOfTwo : List Cond := .code yX2_promotedOfTwo cX2_promotedOfTwo 2 (some .int) :: ([.methodLink RX2 118 Lib.Math.max.name, .static Lib.Math.max.name, .initialized "java/lang/Math", .code Lib.Math.max.name Lib.Math.max.code 2 (some .int)])
def wsX2_both : List Cond := .code yX2_both cX2_both 5 (some .int) :: ([.fieldLink RX2 12 "ConversionTables" "types" "LConversionTables$TypeTable;", .methodLink RX2 50 yX1_has, .instanceMethod yX1_has, .selects RX1 yX1_has yX1_has, .initialized RX1, .code yX1_has cX1_has 2 (some .boolean), .fieldLink RX1 26 "ConversionTables$TypeTable" "size" "I", .methodLink RX2 115 yX2_withoutBox, .static yX2_withoutBox, .initialized RX2, .code yX2_withoutBox cX2_withoutBox 1 (some .int), .methodLink RX2 135 yX2_isBox, .static yX2_isBox, .code yX2_isBox cX2_isBox 1 (some .boolean), .methodLink RX2 101 yX2_isNumber, .static yX2_isNumber, .code yX2_isNumber cX2_isNumber 1 (some .boolean), .methodLink RX2 123 yX2_promotedOfTwo, .static yX2_promotedOfTwo, .code yX2_promotedOfTwo cX2_promotedOfTwo 2 (some .int), .methodLink RX2 118 Lib.Math.max.name, .static Lib.Math.max.name, .initialized "java/lang/Math", .code Lib.Math.max.name Lib.Math.max.code 2 (some .int)] ++ wsX20 ++ wsX10 ++ (vx_atN 8).filter goodWord)
def wsX2_isByteAndShort : List Cond := .code yX2_isByteAndShort cX2_isByteAndShort 2 (some .boolean) :: ([])
def wsX2_conditionalOfReferences : List Cond := .code yX2_conditionalOfReferences cX2_conditionalOfReferences 3 (some .int) :: ([.fieldLink RX2 12 "ConversionTables" "types" "LConversionTables$TypeTable;", .methodLink RX2 75 yX1_isUnder, .instanceMethod yX1_isUnder, .selects RX1 yX1_isUnder yX1_isUnder, .initialized RX1, .code yX1_isUnder cX1_isUnder 3 (some .boolean), .fieldLink RX1 22 "ConversionTables$TypeTable" "aboves" "[J", .methodLink RX1 34 yX1_bit, .static yX1_bit, .code yX1_bit cX1_bit 1 (some .long)] ++ wsX20 ++ wsX10 ++ (vx_atN 8).filter goodWord)
def wsX2_conditional_r1 : List Cond := [Cond.fieldLink RX2 12 "ConversionTables" "types" "LConversionTables$TypeTable;", Cond.methodLink RX2 50 yX1_has, Cond.instanceMethod yX1_has, Cond.selects RX1 yX1_has yX1_has, Cond.initialized RX1, Cond.code yX1_has cX1_has 2 (some .boolean), Cond.fieldLink RX1 26 "ConversionTables$TypeTable" "size" "I", Cond.methodLink RX2 115 yX2_withoutBox, Cond.static yX2_withoutBox, Cond.initialized RX2, Cond.code yX2_withoutBox cX2_withoutBox 1 (some .int), Cond.methodLink RX2 135 yX2_isBox, Cond.static yX2_isBox, Cond.code yX2_isBox cX2_isBox 1 (some .boolean), Cond.methodLink RX2 101 yX2_isNumber, Cond.static yX2_isNumber, Cond.code yX2_isNumber cX2_isNumber 1 (some .boolean), Cond.methodLink RX2 126 yX2_isByteAndShort, Cond.static yX2_isByteAndShort, Cond.code yX2_isByteAndShort cX2_isByteAndShort 2 (some .boolean), Cond.methodLink RX2 123 yX2_promotedOfTwo, Cond.static yX2_promotedOfTwo, Cond.code yX2_promotedOfTwo cX2_promotedOfTwo 2 (some .int), Cond.methodLink RX2 118 Lib.Math.max.name]
def wsX2_conditional_r2 : List Cond := [Cond.static Lib.Math.max.name, Cond.initialized "java/lang/Math", Cond.code Lib.Math.max.name Lib.Math.max.code 2 (some .int), Cond.methodLink RX2 129 yX2_boxed, Cond.static yX2_boxed, Cond.code yX2_boxed cX2_boxed 1 (some .int), Cond.methodLink RX2 72 yX2_isPrimitive, Cond.static yX2_isPrimitive, Cond.code yX2_isPrimitive cX2_isPrimitive 1 (some .boolean), Cond.methodLink RX2 132 yX2_conditionalOfReferences, Cond.instanceMethod yX2_conditionalOfReferences, Cond.selects RX2 yX2_conditionalOfReferences yX2_conditionalOfReferences, Cond.code yX2_conditionalOfReferences cX2_conditionalOfReferences 3 (some .int), Cond.methodLink RX2 75 yX1_isUnder, Cond.instanceMethod yX1_isUnder, Cond.selects RX1 yX1_isUnder yX1_isUnder, Cond.code yX1_isUnder cX1_isUnder 3 (some .boolean), Cond.fieldLink RX1 22 "ConversionTables$TypeTable" "aboves" "[J", Cond.methodLink RX1 34 yX1_bit, Cond.static yX1_bit, Cond.code yX1_bit cX1_bit 1 (some .long)]
def wsX2_conditional : List Cond := .code yX2_conditional cX2_conditional 5 (some .int) :: ((wsX2_conditional_r1 ++ wsX2_conditional_r2) ++ wsX20 ++ wsX10 ++ (vx_atN 8).filter goodWord)
def wsX2_isFullOfObjects : List Cond := .code yX2_isFullOfObjects cX2_isFullOfObjects 1 (some .boolean) :: ([.fieldLink RX2 24 "ConversionTables" "objectCount" "I"] ++ wsX20)
def wsX2_withOneNaN_r1 : List Cond := [Cond.methodLink RX2 177 yX2_formatOf, Cond.static yX2_formatOf, Cond.initialized RX2, Cond.code yX2_formatOf cX2_formatOf 1 (some (.object "ConversionTables$Format")), Cond.fieldLink RX2 168 "ConversionTables$Format" "OF_FLOAT" "LConversionTables$Format;", Cond.fieldLink RX2 174 "ConversionTables$Format" "OF_DOUBLE" "LConversionTables$Format;", Cond.methodLink RX2 185 yX0_fromFormat, Cond.instanceMethod yX0_fromFormat, Cond.selects RX0 yX0_fromFormat yX0_fromFormat, Cond.initialized RX0, Cond.code yX0_fromFormat cX0_fromFormat 7 (some .long), Cond.fieldLink RX0 36 "ConversionTables$Format" "infinity" "J", Cond.fieldLink RX0 40 "ConversionTables$Format" "nan" "J", Cond.methodLink RX0 48 yX0_withoutSign, Cond.instanceMethod yX0_withoutSign, Cond.selects RX0 yX0_withoutSign yX0_withoutSign, Cond.code yX0_withoutSign cX0_withoutSign 3 (some .long), Cond.fieldLink RX0 43 "ConversionTables$Format" "sign" "J", Cond.constantLong RX0 46 (-1), Cond.methodLink RX0 65 yX0_withSign, Cond.instanceMethod yX0_withSign, Cond.selects RX0 yX0_withSign yX0_withSign, Cond.code yX0_withSign cX0_withSign 4 (some .long), Cond.methodLink RX0 69 yX0_significand]
def wsX2_withOneNaN_r2 : List Cond := [Cond.instanceMethod yX0_significand, Cond.selects RX0 yX0_significand yX0_significand, Cond.code yX0_significand cX0_significand 7 (some .long), Cond.fieldLink RX0 29 "ConversionTables$Format" "precision" "I", Cond.methodLink RX0 52 yX0_exponentField, Cond.instanceMethod yX0_exponentField, Cond.selects RX0 yX0_exponentField yX0_exponentField, Cond.code yX0_exponentField cX0_exponentField 3 (some .long), Cond.methodLink RX0 72 yX0_exponent, Cond.instanceMethod yX0_exponent, Cond.selects RX0 yX0_exponent yX0_exponent, Cond.code yX0_exponent cX0_exponent 3 (some .int), Cond.fieldLink RX0 33 "ConversionTables$Format" "lowestExponent" "I", Cond.methodLink RX0 55 Lib.MathLoose.max_long.x, Cond.static Lib.MathLoose.max_long.x, Cond.initialized "java/lang/Math", Cond.code Lib.MathLoose.max_long.x Lib.MathLoose.max_long.code 4 (some .long), Cond.methodLink RX0 61 yX0_nearest, Cond.instanceMethod yX0_nearest, Cond.selects RX0 yX0_nearest yX0_nearest, Cond.code yX0_nearest cX0_nearest 9 (some .long), Cond.methodLink RX0 91 Lib.Math.max.name, Cond.static Lib.Math.max.name, Cond.code Lib.Math.max.name Lib.Math.max.code 2 (some .int)]
def wsX2_withOneNaN_r3 : List Cond := [Cond.methodLink RX0 97 Lib.MathLoose.min_long.x, Cond.static Lib.MathLoose.min_long.x, Cond.code Lib.MathLoose.min_long.x Lib.MathLoose.min_long.code 4 (some .long), Cond.methodLink RX0 76 yX0_widthOf, Cond.static yX0_widthOf, Cond.code yX0_widthOf cX0_widthOf 2 (some .int), Cond.methodLink RX0 86 yJ13_numberOfLeadingZeros_95d88, Cond.static yJ13_numberOfLeadingZeros_95d88, Cond.initialized RJ13, Cond.code yJ13_numberOfLeadingZeros_95d88 cJ13_numberOfLeadingZeros_95d88 3 (some .int), Cond.methodLink RJ13 308 yJ6_numberOfLeadingZeros_0f7a4, Cond.static yJ6_numberOfLeadingZeros_0f7a4, Cond.initialized RJ6, Cond.code yJ6_numberOfLeadingZeros_0f7a4 cJ6_numberOfLeadingZeros_0f7a4 2 (some .int), Cond.constant RJ6 264 (65536), Cond.methodLink RX0 94 yX0_rounded, Cond.static yX0_rounded, Cond.code yX0_rounded cX0_rounded 10 (some .long)]
def wsX2_withOneNaN : List Cond := .code yX2_withOneNaN cX2_withOneNaN 4 (some .long) :: ((wsX2_withOneNaN_r1 ++ (wsX2_withOneNaN_r2 ++ wsX2_withOneNaN_r3)) ++ (vx_atN 8).filter goodWord)
def wsX2_addObject : List Cond := .code yX2_addObject cX2_addObject 5 (some .int) :: ([.fieldLink RX2 24 "ConversionTables" "objectCount" "I", .fieldLink RX2 16 "ConversionTables" "objectTypes" "[I", .fieldLink RX2 20 "ConversionTables" "objectBits" "[J"] ++ wsX20 ++ (vx_atN 8).filter goodWord)
def wsX2_box_r1 : List Cond := [Cond.fieldLink RX2 12 "ConversionTables" "types" "LConversionTables$TypeTable;", Cond.methodLink RX2 50 yX1_has, Cond.instanceMethod yX1_has, Cond.selects RX1 yX1_has yX1_has, Cond.initialized RX1, Cond.code yX1_has cX1_has 2 (some .boolean), Cond.fieldLink RX1 26 "ConversionTables$TypeTable" "size" "I", Cond.methodLink RX2 135 yX2_isBox, Cond.static yX2_isBox, Cond.initialized RX2, Cond.code yX2_isBox cX2_isBox 1 (some .boolean), Cond.methodLink RX2 115 yX2_withoutBox, Cond.static yX2_withoutBox, Cond.code yX2_withoutBox cX2_withoutBox 1 (some .int), Cond.methodLink RX2 89 yX2_areBitsOf, Cond.static yX2_areBitsOf, Cond.code yX2_areBitsOf cX2_areBitsOf 3 (some .boolean), Cond.fieldLink RX2 162 "ConversionTables" "LEAST_BITS" "[J", Cond.fieldLink RX2 165 "ConversionTables" "GREATEST_BITS" "[J", Cond.methodLink RX2 205 yX2_isFullOfObjects, Cond.instanceMethod yX2_isFullOfObjects, Cond.selects RX2 yX2_isFullOfObjects yX2_isFullOfObjects, Cond.code yX2_isFullOfObjects cX2_isFullOfObjects 1 (some .boolean), Cond.fieldLink RX2 24 "ConversionTables" "objectCount" "I"]
def wsX2_box_r2 : List Cond := [Cond.methodLink RX2 208 yX2_withOneNaN, Cond.static yX2_withOneNaN, Cond.code yX2_withOneNaN cX2_withOneNaN 4 (some .long), Cond.methodLink RX2 177 yX2_formatOf, Cond.static yX2_formatOf, Cond.code yX2_formatOf cX2_formatOf 1 (some (.object "ConversionTables$Format")), Cond.fieldLink RX2 168 "ConversionTables$Format" "OF_FLOAT" "LConversionTables$Format;", Cond.fieldLink RX2 174 "ConversionTables$Format" "OF_DOUBLE" "LConversionTables$Format;", Cond.methodLink RX2 185 yX0_fromFormat, Cond.instanceMethod yX0_fromFormat, Cond.selects RX0 yX0_fromFormat yX0_fromFormat, Cond.initialized RX0, Cond.code yX0_fromFormat cX0_fromFormat 7 (some .long), Cond.fieldLink RX0 36 "ConversionTables$Format" "infinity" "J", Cond.fieldLink RX0 40 "ConversionTables$Format" "nan" "J", Cond.methodLink RX0 48 yX0_withoutSign, Cond.instanceMethod yX0_withoutSign, Cond.selects RX0 yX0_withoutSign yX0_withoutSign, Cond.code yX0_withoutSign cX0_withoutSign 3 (some .long), Cond.fieldLink RX0 43 "ConversionTables$Format" "sign" "J", Cond.constantLong RX0 46 (-1), Cond.methodLink RX0 65 yX0_withSign, Cond.instanceMethod yX0_withSign, Cond.selects RX0 yX0_withSign yX0_withSign]
def wsX2_box_r3 : List Cond := [Cond.code yX0_withSign cX0_withSign 4 (some .long), Cond.methodLink RX0 69 yX0_significand, Cond.instanceMethod yX0_significand, Cond.selects RX0 yX0_significand yX0_significand, Cond.code yX0_significand cX0_significand 7 (some .long), Cond.fieldLink RX0 29 "ConversionTables$Format" "precision" "I", Cond.methodLink RX0 52 yX0_exponentField, Cond.instanceMethod yX0_exponentField, Cond.selects RX0 yX0_exponentField yX0_exponentField, Cond.code yX0_exponentField cX0_exponentField 3 (some .long), Cond.methodLink RX0 72 yX0_exponent, Cond.instanceMethod yX0_exponent, Cond.selects RX0 yX0_exponent yX0_exponent, Cond.code yX0_exponent cX0_exponent 3 (some .int), Cond.fieldLink RX0 33 "ConversionTables$Format" "lowestExponent" "I", Cond.methodLink RX0 55 Lib.MathLoose.max_long.x, Cond.static Lib.MathLoose.max_long.x, Cond.initialized "java/lang/Math", Cond.code Lib.MathLoose.max_long.x Lib.MathLoose.max_long.code 4 (some .long), Cond.methodLink RX0 61 yX0_nearest, Cond.instanceMethod yX0_nearest, Cond.selects RX0 yX0_nearest yX0_nearest, Cond.code yX0_nearest cX0_nearest 9 (some .long), Cond.methodLink RX0 91 Lib.Math.max.name]
def wsX2_box_r4 : List Cond := [Cond.static Lib.Math.max.name, Cond.code Lib.Math.max.name Lib.Math.max.code 2 (some .int), Cond.methodLink RX0 97 Lib.MathLoose.min_long.x, Cond.static Lib.MathLoose.min_long.x, Cond.code Lib.MathLoose.min_long.x Lib.MathLoose.min_long.code 4 (some .long), Cond.methodLink RX0 76 yX0_widthOf, Cond.static yX0_widthOf, Cond.code yX0_widthOf cX0_widthOf 2 (some .int), Cond.methodLink RX0 86 yJ13_numberOfLeadingZeros_95d88, Cond.static yJ13_numberOfLeadingZeros_95d88, Cond.initialized RJ13, Cond.code yJ13_numberOfLeadingZeros_95d88 cJ13_numberOfLeadingZeros_95d88 3 (some .int), Cond.methodLink RJ13 308 yJ6_numberOfLeadingZeros_0f7a4, Cond.static yJ6_numberOfLeadingZeros_0f7a4, Cond.initialized RJ6, Cond.code yJ6_numberOfLeadingZeros_0f7a4 cJ6_numberOfLeadingZeros_0f7a4 2 (some .int), Cond.constant RJ6 264 (65536), Cond.methodLink RX0 94 yX0_rounded, Cond.static yX0_rounded, Cond.code yX0_rounded cX0_rounded 10 (some .long), Cond.methodLink RX2 212 yX2_addObject, Cond.instanceMethod yX2_addObject, Cond.selects RX2 yX2_addObject yX2_addObject, Cond.code yX2_addObject cX2_addObject 5 (some .int)]
def wsX2_box_r5 : List Cond := [Cond.fieldLink RX2 16 "ConversionTables" "objectTypes" "[I", Cond.fieldLink RX2 20 "ConversionTables" "objectBits" "[J"]
def wsX2_box : List Cond := .code yX2_box cX2_box 4 (some .int) :: ((wsX2_box_r1 ++ (wsX2_box_r2 ++ (wsX2_box_r3 ++ (wsX2_box_r4 ++ wsX2_box_r5)))) ++ wsX20 ++ wsX10 ++ (vx_atN 8).filter goodWord)
def wsX2_mayBeMade : List Cond := .code yX2_mayBeMade cX2_mayBeMade 2 (some .boolean) :: ([.fieldLink RX2 12 "ConversionTables" "types" "LConversionTables$TypeTable;", .methodLink RX2 60 yX1_sortOf, .instanceMethod yX1_sortOf, .selects RX1 yX1_sortOf yX1_sortOf, .initialized RX1, .code yX1_sortOf cX1_sortOf 2 (some .int), .fieldLink RX1 9 "ConversionTables$TypeTable" "sorts" "[I"] ++ wsX20 ++ wsX10 ++ (vx_atN 8).filter goodWord)
def wsX2_make_r1 : List Cond := [Cond.fieldLink RX2 12 "ConversionTables" "types" "LConversionTables$TypeTable;", Cond.methodLink RX2 50 yX1_has, Cond.instanceMethod yX1_has, Cond.selects RX1 yX1_has yX1_has, Cond.initialized RX1, Cond.code yX1_has cX1_has 2 (some .boolean), Cond.fieldLink RX1 26 "ConversionTables$TypeTable" "size" "I", Cond.methodLink RX2 216 yX2_mayBeMade, Cond.instanceMethod yX2_mayBeMade, Cond.selects RX2 yX2_mayBeMade yX2_mayBeMade, Cond.initialized RX2, Cond.code yX2_mayBeMade cX2_mayBeMade 2 (some .boolean), Cond.methodLink RX2 60 yX1_sortOf, Cond.instanceMethod yX1_sortOf, Cond.selects RX1 yX1_sortOf yX1_sortOf, Cond.code yX1_sortOf cX1_sortOf 2 (some .int), Cond.fieldLink RX1 9 "ConversionTables$TypeTable" "sorts" "[I", Cond.methodLink RX2 205 yX2_isFullOfObjects, Cond.instanceMethod yX2_isFullOfObjects, Cond.selects RX2 yX2_isFullOfObjects yX2_isFullOfObjects, Cond.code yX2_isFullOfObjects cX2_isFullOfObjects 1 (some .boolean), Cond.fieldLink RX2 24 "ConversionTables" "objectCount" "I", Cond.methodLink RX2 212 yX2_addObject, Cond.instanceMethod yX2_addObject]
def wsX2_make_r2 : List Cond := [Cond.selects RX2 yX2_addObject yX2_addObject, Cond.code yX2_addObject cX2_addObject 5 (some .int), Cond.fieldLink RX2 16 "ConversionTables" "objectTypes" "[I", Cond.fieldLink RX2 20 "ConversionTables" "objectBits" "[J"]
def wsX2_make : List Cond := .code yX2_make cX2_make 2 (some .int) :: ((wsX2_make_r1 ++ wsX2_make_r2) ++ wsX20 ++ wsX10 ++ (vx_atN 8).filter goodWord)
def wsX2_isObject : List Cond := .code yX2_isObject cX2_isObject 2 (some .boolean) :: ([.fieldLink RX2 24 "ConversionTables" "objectCount" "I"] ++ wsX20)
def wsX2_typeOf : List Cond := .code yX2_typeOf cX2_typeOf 2 (some .int) :: ([.fieldLink RX2 16 "ConversionTables" "objectTypes" "[I", .methodLink RX2 219 yX2_isObject, .instanceMethod yX2_isObject, .selects RX2 yX2_isObject yX2_isObject, .initialized RX2, .code yX2_isObject cX2_isObject 2 (some .boolean), .fieldLink RX2 24 "ConversionTables" "objectCount" "I"] ++ wsX20 ++ (vx_atN 8).filter goodWord)
def wsX2_unboxed_r1 : List Cond := [Cond.fieldLink RX2 12 "ConversionTables" "types" "LConversionTables$TypeTable;", Cond.constantLong RX2 104 (-1), Cond.constantLong RX2 106 (-2), Cond.fieldLink RX2 16 "ConversionTables" "objectTypes" "[I", Cond.classLink RX2 222 RJx5d777, Cond.instantiable RJx5d777 8, Cond.initialized RJx5d777, Cond.classLink RX2 225 RJx3273f, Cond.instantiable RJx3273f 6, Cond.initialized RJx3273f, Cond.fieldLink RX2 20 "ConversionTables" "objectBits" "[J", Cond.methodLink RX2 219 yX2_isObject, Cond.instanceMethod yX2_isObject, Cond.selects RX2 yX2_isObject yX2_isObject, Cond.initialized RX2, Cond.code yX2_isObject cX2_isObject 2 (some .boolean), Cond.fieldLink RX2 24 "ConversionTables" "objectCount" "I", Cond.methodLink RX2 50 yX1_has, Cond.instanceMethod yX1_has, Cond.selects RX1 yX1_has yX1_has, Cond.initialized RX1, Cond.code yX1_has cX1_has 2 (some .boolean), Cond.fieldLink RX1 26 "ConversionTables$TypeTable" "size" "I", Cond.methodLink RX2 135 yX2_isBox]
def wsX2_unboxed_r2 : List Cond := [Cond.static yX2_isBox, Cond.code yX2_isBox cX2_isBox 1 (some .boolean)]
def wsX2_unboxed : List Cond := .code yX2_unboxed cX2_unboxed 3 (some .long) :: ((wsX2_unboxed_r1 ++ wsX2_unboxed_r2) ++ wsX20 ++ wsJx5d7770 ++ wsJx3273f0 ++ wsX10 ++ (vx_atN 8).filter goodWord)
def wsX2_cast_r1 : List Cond := [Cond.fieldLink RX2 12 "ConversionTables" "types" "LConversionTables$TypeTable;", Cond.fieldLink RX2 16 "ConversionTables" "objectTypes" "[I", Cond.methodLink RX2 219 yX2_isObject, Cond.instanceMethod yX2_isObject, Cond.selects RX2 yX2_isObject yX2_isObject, Cond.initialized RX2, Cond.code yX2_isObject cX2_isObject 2 (some .boolean), Cond.fieldLink RX2 24 "ConversionTables" "objectCount" "I", Cond.methodLink RX2 50 yX1_has, Cond.instanceMethod yX1_has, Cond.selects RX1 yX1_has yX1_has, Cond.initialized RX1, Cond.code yX1_has cX1_has 2 (some .boolean), Cond.fieldLink RX1 26 "ConversionTables$TypeTable" "size" "I", Cond.methodLink RX2 72 yX2_isPrimitive, Cond.static yX2_isPrimitive, Cond.code yX2_isPrimitive cX2_isPrimitive 1 (some .boolean), Cond.methodLink RX2 75 yX1_isUnder, Cond.instanceMethod yX1_isUnder, Cond.selects RX1 yX1_isUnder yX1_isUnder, Cond.code yX1_isUnder cX1_isUnder 3 (some .boolean), Cond.fieldLink RX1 22 "ConversionTables$TypeTable" "aboves" "[J", Cond.methodLink RX1 34 yX1_bit, Cond.static yX1_bit]
def wsX2_cast_r2 : List Cond := [Cond.code yX1_bit cX1_bit 1 (some .long), Cond.methodLink RX2 82 yX2_allowedKind, Cond.instanceMethod yX2_allowedKind, Cond.selects RX2 yX2_allowedKind yX2_allowedKind, Cond.code yX2_allowedKind cX2_allowedKind 5 (some .int), Cond.fieldLink RX2 141 "ConversionTables" "ALLOWED_KINDS" "[I", Cond.methodLink RX2 101 yX2_isNumber, Cond.static yX2_isNumber, Cond.code yX2_isNumber cX2_isNumber 1 (some .boolean), Cond.methodLink RX2 138 yX2_stepsBetween, Cond.instanceMethod yX2_stepsBetween, Cond.selects RX2 yX2_stepsBetween yX2_stepsBetween, Cond.code yX2_stepsBetween cX2_stepsBetween 3 (some .int), Cond.methodLink RX2 144 yX2_stepBetweenPrimitives, Cond.static yX2_stepBetweenPrimitives, Cond.code yX2_stepBetweenPrimitives cX2_stepBetweenPrimitives 2 (some .int), Cond.methodLink RX2 156 yX2_isWider, Cond.static yX2_isWider, Cond.code yX2_isWider cX2_isWider 3 (some .boolean), Cond.methodLink RX2 147 yX2_stepsByBoxing, Cond.instanceMethod yX2_stepsByBoxing, Cond.selects RX2 yX2_stepsByBoxing yX2_stepsByBoxing, Cond.code yX2_stepsByBoxing cX2_stepsByBoxing 4 (some .int), Cond.methodLink RX2 129 yX2_boxed]
def wsX2_cast_r3 : List Cond := [Cond.static yX2_boxed, Cond.code yX2_boxed cX2_boxed 1 (some .int), Cond.methodLink RX2 150 yX2_stepsByUnboxing, Cond.instanceMethod yX2_stepsByUnboxing, Cond.selects RX2 yX2_stepsByUnboxing yX2_stepsByUnboxing, Cond.code yX2_stepsByUnboxing cX2_stepsByUnboxing 4 (some .int), Cond.methodLink RX2 135 yX2_isBox, Cond.static yX2_isBox, Cond.code yX2_isBox cX2_isBox 1 (some .boolean), Cond.methodLink RX2 159 yX1_goesDown, Cond.instanceMethod yX1_goesDown, Cond.selects RX1 yX1_goesDown yX1_goesDown, Cond.code yX1_goesDown cX1_goesDown 6 (some .boolean), Cond.fieldLink RX1 19 "ConversionTables$TypeTable" "elements" "[I", Cond.methodLink RX1 59 yX1_isArrayOfReferences, Cond.instanceMethod yX1_isArrayOfReferences, Cond.selects RX1 yX1_isArrayOfReferences yX1_isArrayOfReferences, Cond.code yX1_isArrayOfReferences cX1_isArrayOfReferences 2 (some .boolean), Cond.fieldLink RX1 9 "ConversionTables$TypeTable" "sorts" "[I", Cond.methodLink RX1 55 yX1_isUnder, Cond.methodLink RX1 63 yX1_mayShareObjects, Cond.instanceMethod yX1_mayShareObjects, Cond.selects RX1 yX1_mayShareObjects yX1_mayShareObjects, Cond.code yX1_mayShareObjects cX1_mayShareObjects 3 (some .boolean)]
def wsX2_cast_r4 : List Cond := [Cond.methodLink RX1 66 yX1_isOpenClass, Cond.instanceMethod yX1_isOpenClass, Cond.selects RX1 yX1_isOpenClass yX1_isOpenClass, Cond.code yX1_isOpenClass cX1_isOpenClass 2 (some .boolean), Cond.fieldLink RX1 15 "ConversionTables$TypeTable" "finals" "[Z", Cond.methodLink RX2 115 yX2_withoutBox, Cond.static yX2_withoutBox, Cond.code yX2_withoutBox cX2_withoutBox 1 (some .int), Cond.methodLink RX2 153 yX2_stepBetweenReferences, Cond.instanceMethod yX2_stepBetweenReferences, Cond.selects RX2 yX2_stepBetweenReferences yX2_stepBetweenReferences, Cond.code yX2_stepBetweenReferences cX2_stepBetweenReferences 3 (some .int)]
def wsX2_cast : List Cond := .code yX2_cast cX2_cast 7 (some .int) :: ((wsX2_cast_r1 ++ (wsX2_cast_r2 ++ (wsX2_cast_r3 ++ wsX2_cast_r4))) ++ wsX20 ++ wsX10 ++ (vx_atN 8).filter goodWord)
def wsX2_count : List Cond := .code yX2_count cX2_count 2 (some .int) :: ([.fieldLink RX2 12 "ConversionTables" "types" "LConversionTables$TypeTable;", .fieldLink RX2 24 "ConversionTables" "objectCount" "I", .methodLink RX2 97 yX1_size, .instanceMethod yX1_size, .selects RX1 yX1_size yX1_size, .initialized RX1, .code yX1_size cX1_size 1 (some .int), .fieldLink RX1 26 "ConversionTables$TypeTable" "size" "I"] ++ wsX20 ++ wsX10 ++ (vx_atN 8).filter goodWord)
def wsX3_add : List Cond := .code yX3_add cX3_add 7 (some .int) :: ([.fieldLink RX3 7 "ConversionTablesModel" "sort" "[I", .fieldLink RX3 44 "ConversionTablesModel" "types" "I", .fieldLink RX3 13 "ConversionTablesModel" "isFinal" "[Z", .fieldLink RX3 17 "ConversionTablesModel" "elements" "[I", .fieldLink RX3 20 "ConversionTablesModel" "above" "[I"] ++ wsX30 ++ (vx_atN 8).filter goodWord)
def wsX3_isReference : List Cond := .code yX3_isReference cX3_isReference 2 (some .boolean) :: ([])
def wsX3_comes : List Cond := .code yX3_comes cX3_comes 5 (some .boolean) :: ([.fieldLink RX3 20 "ConversionTablesModel" "above" "[I", .fieldLink RX3 23 "ConversionTablesModel" "under" "[Z", .fieldLink RX3 7 "ConversionTablesModel" "sort" "[I", .fieldLink RX3 17 "ConversionTablesModel" "elements" "[I", .methodLink RX3 55 yX3_isReference, .instanceMethod yX3_isReference, .selects RX3 yX3_isReference yX3_isReference, .initialized RX3, .code yX3_isReference cX3_isReference 2 (some .boolean)] ++ wsX30 ++ (vx_atN 8).filter goodWord)
def wsX3_fill : List Cond := .code yX3_fill cX3_fill 4 none :: ([.fieldLink RX3 44 "ConversionTablesModel" "types" "I", .fieldLink RX3 23 "ConversionTablesModel" "under" "[Z", .fieldLink RX3 7 "ConversionTablesModel" "sort" "[I", .methodLink RX3 51 yX3_comes, .instanceMethod yX3_comes, .selects RX3 yX3_comes yX3_comes, .initialized RX3, .code yX3_comes cX3_comes 5 (some .boolean), .fieldLink RX3 20 "ConversionTablesModel" "above" "[I", .fieldLink RX3 17 "ConversionTablesModel" "elements" "[I", .methodLink RX3 55 yX3_isReference, .instanceMethod yX3_isReference, .selects RX3 yX3_isReference yX3_isReference, .code yX3_isReference cX3_isReference 2 (some .boolean)] ++ wsX30 ++ (vx_atN 8).filter goodWord)
def wsX3_init_r1 : List Cond := [Cond.methodLink RX3 1 objectInit, Cond.instanceMethod objectInit, Cond.code objectInit ⟨#[0xb1]⟩ 1 none, Cond.arrayClass .int, Cond.fieldLink RX3 7 "ConversionTablesModel" "sort" "[I", Cond.arrayClass .boolean, Cond.fieldLink RX3 13 "ConversionTablesModel" "isFinal" "[Z", Cond.fieldLink RX3 17 "ConversionTablesModel" "elements" "[I", Cond.fieldLink RX3 20 "ConversionTablesModel" "above" "[I", Cond.fieldLink RX3 23 "ConversionTablesModel" "under" "[Z", Cond.fieldLink RX3 26 "ConversionTablesModel" "kept" "[I", Cond.arrayClass .long, Cond.fieldLink RX3 29 "ConversionTablesModel" "bits" "[J", Cond.methodLink RX3 33 yX3_add, Cond.instanceMethod yX3_add, Cond.selects RX3 yX3_add yX3_add, Cond.initialized RX3, Cond.code yX3_add cX3_add 7 (some .int), Cond.fieldLink RX3 44 "ConversionTablesModel" "types" "I", Cond.methodLink RX3 37 yX3_fill, Cond.instanceMethod yX3_fill, Cond.selects RX3 yX3_fill yX3_fill, Cond.code yX3_fill cX3_fill 4 none, Cond.methodLink RX3 51 yX3_comes]
def wsX3_init_r2 : List Cond := [Cond.instanceMethod yX3_comes, Cond.selects RX3 yX3_comes yX3_comes, Cond.code yX3_comes cX3_comes 5 (some .boolean), Cond.methodLink RX3 55 yX3_isReference, Cond.instanceMethod yX3_isReference, Cond.selects RX3 yX3_isReference yX3_isReference, Cond.code yX3_isReference cX3_isReference 2 (some .boolean)]
def wsX3_init : List Cond := .code yX3_init cX3_init 2 none :: ((wsX3_init_r1 ++ wsX3_init_r2) ++ wsX30 ++ (vx_atN 8).filter goodWord)
def wsX3_thrown : List Cond := .code yX3_thrown cX3_thrown 1 (some .int) :: ([.fieldLink RX3 40 "ConversionTablesModel" "thrown" "I"] ++ wsX30)
def wsX3_in : List Cond := .code yX3_in cX3_in 3 (some .boolean) :: ([])
def wsX3_isType : List Cond := .code yX3_isType cX3_isType 2 (some .boolean) :: ([.fieldLink RX3 44 "ConversionTablesModel" "types" "I", .methodLink RX3 47 yX3_in, .static yX3_in, .initialized RX3, .code yX3_in cX3_in 3 (some .boolean)] ++ wsX30)
def wsX3_isNumber : List Cond := .code yX3_isNumber cX3_isNumber 1 (some .boolean) :: ([.methodLink RX3 47 yX3_in, .static yX3_in, .initialized RX3, .code yX3_in cX3_in 3 (some .boolean)])
def wsX3_isBox : List Cond := .code yX3_isBox cX3_isBox 1 (some .boolean) :: ([.methodLink RX3 47 yX3_in, .static yX3_in, .initialized RX3, .code yX3_in cX3_in 3 (some .boolean)])
def wsX3_isFace : List Cond := .code yX3_isFace cX3_isFace 2 (some .boolean) :: ([.fieldLink RX3 7 "ConversionTablesModel" "sort" "[I"] ++ wsX30 ++ (vx_atN 8).filter goodWord)
def wsX3_newClass_r1 : List Cond := [Cond.fieldLink RX3 40 "ConversionTablesModel" "thrown" "I", Cond.fieldLink RX3 7 "ConversionTablesModel" "sort" "[I", Cond.fieldLink RX3 13 "ConversionTablesModel" "isFinal" "[Z", Cond.fieldLink RX3 44 "ConversionTablesModel" "types" "I", Cond.methodLink RX3 59 yX3_isType, Cond.instanceMethod yX3_isType, Cond.selects RX3 yX3_isType yX3_isType, Cond.initialized RX3, Cond.code yX3_isType cX3_isType 2 (some .boolean), Cond.methodLink RX3 47 yX3_in, Cond.static yX3_in, Cond.code yX3_in cX3_in 3 (some .boolean), Cond.methodLink RX3 62 yX3_isFace, Cond.instanceMethod yX3_isFace, Cond.selects RX3 yX3_isFace yX3_isFace, Cond.code yX3_isFace cX3_isFace 2 (some .boolean), Cond.methodLink RX3 33 yX3_add, Cond.instanceMethod yX3_add, Cond.selects RX3 yX3_add yX3_add, Cond.code yX3_add cX3_add 7 (some .int), Cond.fieldLink RX3 17 "ConversionTablesModel" "elements" "[I", Cond.fieldLink RX3 20 "ConversionTablesModel" "above" "[I", Cond.methodLink RX3 37 yX3_fill, Cond.instanceMethod yX3_fill]
def wsX3_newClass_r2 : List Cond := [Cond.selects RX3 yX3_fill yX3_fill, Cond.code yX3_fill cX3_fill 4 none, Cond.fieldLink RX3 23 "ConversionTablesModel" "under" "[Z", Cond.methodLink RX3 51 yX3_comes, Cond.instanceMethod yX3_comes, Cond.selects RX3 yX3_comes yX3_comes, Cond.code yX3_comes cX3_comes 5 (some .boolean), Cond.methodLink RX3 55 yX3_isReference, Cond.instanceMethod yX3_isReference, Cond.selects RX3 yX3_isReference yX3_isReference, Cond.code yX3_isReference cX3_isReference 2 (some .boolean)]
def wsX3_newClass : List Cond := .code yX3_newClass cX3_newClass 5 (some .int) :: ((wsX3_newClass_r1 ++ wsX3_newClass_r2) ++ wsX30 ++ (vx_atN 8).filter goodWord)
def wsX3_newInterface_r1 : List Cond := [Cond.fieldLink RX3 40 "ConversionTablesModel" "thrown" "I", Cond.fieldLink RX3 44 "ConversionTablesModel" "types" "I", Cond.methodLink RX3 59 yX3_isType, Cond.instanceMethod yX3_isType, Cond.selects RX3 yX3_isType yX3_isType, Cond.initialized RX3, Cond.code yX3_isType cX3_isType 2 (some .boolean), Cond.methodLink RX3 47 yX3_in, Cond.static yX3_in, Cond.code yX3_in cX3_in 3 (some .boolean), Cond.methodLink RX3 62 yX3_isFace, Cond.instanceMethod yX3_isFace, Cond.selects RX3 yX3_isFace yX3_isFace, Cond.code yX3_isFace cX3_isFace 2 (some .boolean), Cond.fieldLink RX3 7 "ConversionTablesModel" "sort" "[I", Cond.methodLink RX3 33 yX3_add, Cond.instanceMethod yX3_add, Cond.selects RX3 yX3_add yX3_add, Cond.code yX3_add cX3_add 7 (some .int), Cond.fieldLink RX3 13 "ConversionTablesModel" "isFinal" "[Z", Cond.fieldLink RX3 17 "ConversionTablesModel" "elements" "[I", Cond.fieldLink RX3 20 "ConversionTablesModel" "above" "[I", Cond.methodLink RX3 37 yX3_fill, Cond.instanceMethod yX3_fill]
def wsX3_newInterface_r2 : List Cond := [Cond.selects RX3 yX3_fill yX3_fill, Cond.code yX3_fill cX3_fill 4 none, Cond.fieldLink RX3 23 "ConversionTablesModel" "under" "[Z", Cond.methodLink RX3 51 yX3_comes, Cond.instanceMethod yX3_comes, Cond.selects RX3 yX3_comes yX3_comes, Cond.code yX3_comes cX3_comes 5 (some .boolean), Cond.methodLink RX3 55 yX3_isReference, Cond.instanceMethod yX3_isReference, Cond.selects RX3 yX3_isReference yX3_isReference, Cond.code yX3_isReference cX3_isReference 2 (some .boolean)]
def wsX3_newInterface : List Cond := .code yX3_newInterface cX3_newInterface 4 (some .int) :: ((wsX3_newInterface_r1 ++ wsX3_newInterface_r2) ++ wsX30 ++ (vx_atN 8).filter goodWord)
def wsX3_array_r1 : List Cond := [Cond.fieldLink RX3 40 "ConversionTablesModel" "thrown" "I", Cond.fieldLink RX3 7 "ConversionTablesModel" "sort" "[I", Cond.fieldLink RX3 44 "ConversionTablesModel" "types" "I", Cond.fieldLink RX3 17 "ConversionTablesModel" "elements" "[I", Cond.methodLink RX3 59 yX3_isType, Cond.instanceMethod yX3_isType, Cond.selects RX3 yX3_isType yX3_isType, Cond.initialized RX3, Cond.code yX3_isType cX3_isType 2 (some .boolean), Cond.methodLink RX3 47 yX3_in, Cond.static yX3_in, Cond.code yX3_in cX3_in 3 (some .boolean), Cond.methodLink RX3 33 yX3_add, Cond.instanceMethod yX3_add, Cond.selects RX3 yX3_add yX3_add, Cond.code yX3_add cX3_add 7 (some .int), Cond.fieldLink RX3 13 "ConversionTablesModel" "isFinal" "[Z", Cond.fieldLink RX3 20 "ConversionTablesModel" "above" "[I", Cond.methodLink RX3 37 yX3_fill, Cond.instanceMethod yX3_fill, Cond.selects RX3 yX3_fill yX3_fill, Cond.code yX3_fill cX3_fill 4 none, Cond.fieldLink RX3 23 "ConversionTablesModel" "under" "[Z", Cond.methodLink RX3 51 yX3_comes]
def wsX3_array_r2 : List Cond := [Cond.instanceMethod yX3_comes, Cond.selects RX3 yX3_comes yX3_comes, Cond.code yX3_comes cX3_comes 5 (some .boolean), Cond.methodLink RX3 55 yX3_isReference, Cond.instanceMethod yX3_isReference, Cond.selects RX3 yX3_isReference yX3_isReference, Cond.code yX3_isReference cX3_isReference 2 (some .boolean)]
def wsX3_array : List Cond := .code yX3_array cX3_array 3 (some .int) :: ((wsX3_array_r1 ++ wsX3_array_r2) ++ wsX30 ++ (vx_atN 8).filter goodWord)
def wsX3_type : List Cond := .code yX3_type cX3_type 5 (some .int) :: ([.fieldLink RX3 40 "ConversionTablesModel" "thrown" "I", .fieldLink RX3 7 "ConversionTablesModel" "sort" "[I", .fieldLink RX3 13 "ConversionTablesModel" "isFinal" "[Z", .fieldLink RX3 17 "ConversionTablesModel" "elements" "[I", .fieldLink RX3 44 "ConversionTablesModel" "types" "I", .fieldLink RX3 23 "ConversionTablesModel" "under" "[Z", .methodLink RX3 59 yX3_isType, .instanceMethod yX3_isType, .selects RX3 yX3_isType yX3_isType, .initialized RX3, .code yX3_isType cX3_isType 2 (some .boolean), .methodLink RX3 47 yX3_in, .static yX3_in, .code yX3_in cX3_in 3 (some .boolean), .methodLink RX3 55 yX3_isReference, .instanceMethod yX3_isReference, .selects RX3 yX3_isReference yX3_isReference, .code yX3_isReference cX3_isReference 2 (some .boolean)] ++ wsX30 ++ (vx_atN 8).filter goodWord)
def wsX3_under : List Cond := .code yX3_under cX3_under 3 (some .int) :: ([.fieldLink RX3 40 "ConversionTablesModel" "thrown" "I", .fieldLink RX3 23 "ConversionTablesModel" "under" "[Z", .methodLink RX3 59 yX3_isType, .instanceMethod yX3_isType, .selects RX3 yX3_isType yX3_isType, .initialized RX3, .code yX3_isType cX3_isType 2 (some .boolean), .fieldLink RX3 44 "ConversionTablesModel" "types" "I", .methodLink RX3 47 yX3_in, .static yX3_in, .code yX3_in cX3_in 3 (some .boolean), .methodLink RX3 55 yX3_isReference, .instanceMethod yX3_isReference, .selects RX3 yX3_isReference yX3_isReference, .code yX3_isReference cX3_isReference 2 (some .boolean)] ++ wsX30 ++ (vx_atN 8).filter goodWord)
def wsX3_isWider : List Cond := .code yX3_isWider cX3_isWider 2 (some .boolean) :: ([.methodLink RX3 47 yX3_in, .static yX3_in, .initialized RX3, .code yX3_in cX3_in 3 (some .boolean)])
def wsX3_isUp : List Cond := .code yX3_isUp cX3_isUp 3 (some .boolean) :: ([.fieldLink RX3 23 "ConversionTablesModel" "under" "[Z", .methodLink RX3 55 yX3_isReference, .instanceMethod yX3_isReference, .selects RX3 yX3_isReference yX3_isReference, .initialized RX3, .code yX3_isReference cX3_isReference 2 (some .boolean)] ++ wsX30 ++ (vx_atN 8).filter goodWord)
def wsX3_isDown : List Cond := .code yX3_isDown cX3_isDown 5 (some .boolean) :: ([.fieldLink RX3 7 "ConversionTablesModel" "sort" "[I", .fieldLink RX3 23 "ConversionTablesModel" "under" "[Z", .fieldLink RX3 13 "ConversionTablesModel" "isFinal" "[Z", .fieldLink RX3 17 "ConversionTablesModel" "elements" "[I", .methodLink RX3 55 yX3_isReference, .instanceMethod yX3_isReference, .selects RX3 yX3_isReference yX3_isReference, .initialized RX3, .code yX3_isReference cX3_isReference 2 (some .boolean), .methodLink RX3 65 yX3_isUp, .instanceMethod yX3_isUp, .selects RX3 yX3_isUp yX3_isUp, .code yX3_isUp cX3_isUp 3 (some .boolean)] ++ wsX30 ++ (vx_atN 8).filter goodWord)
def wsX3_leads_r1 : List Cond := [Cond.methodLink RX3 68 yX3_isWider, Cond.static yX3_isWider, Cond.initialized RX3, Cond.code yX3_isWider cX3_isWider 2 (some .boolean), Cond.methodLink RX3 47 yX3_in, Cond.static yX3_in, Cond.code yX3_in cX3_in 3 (some .boolean), Cond.methodLink RX3 71 yX3_isNumber, Cond.static yX3_isNumber, Cond.code yX3_isNumber cX3_isNumber 1 (some .boolean), Cond.methodLink RX3 65 yX3_isUp, Cond.instanceMethod yX3_isUp, Cond.selects RX3 yX3_isUp yX3_isUp, Cond.code yX3_isUp cX3_isUp 3 (some .boolean), Cond.fieldLink RX3 23 "ConversionTablesModel" "under" "[Z", Cond.methodLink RX3 55 yX3_isReference, Cond.instanceMethod yX3_isReference, Cond.selects RX3 yX3_isReference yX3_isReference, Cond.code yX3_isReference cX3_isReference 2 (some .boolean), Cond.methodLink RX3 74 yX3_isBox, Cond.static yX3_isBox, Cond.code yX3_isBox cX3_isBox 1 (some .boolean), Cond.methodLink RX3 77 yX3_isDown, Cond.instanceMethod yX3_isDown]
def wsX3_leads_r2 : List Cond := [Cond.selects RX3 yX3_isDown yX3_isDown, Cond.code yX3_isDown cX3_isDown 5 (some .boolean), Cond.fieldLink RX3 7 "ConversionTablesModel" "sort" "[I", Cond.fieldLink RX3 13 "ConversionTablesModel" "isFinal" "[Z", Cond.fieldLink RX3 17 "ConversionTablesModel" "elements" "[I"]
def wsX3_leads : List Cond := .code yX3_leads cX3_leads 5 (some .boolean) :: ((wsX3_leads_r1 ++ wsX3_leads_r2) ++ wsX30 ++ (vx_atN 8).filter goodWord)
def wsX3_isAllowed : List Cond := .code yX3_isAllowed cX3_isAllowed 3 (some .boolean) :: ([.methodLink RX3 47 yX3_in, .static yX3_in, .initialized RX3, .code yX3_in cX3_in 3 (some .boolean), .methodLink RX3 71 yX3_isNumber, .static yX3_isNumber, .code yX3_isNumber cX3_isNumber 1 (some .boolean)])
def wsX3_kindOf_r1 : List Cond := [Cond.methodLink RX3 80 yX3_isAllowed, Cond.static yX3_isAllowed, Cond.initialized RX3, Cond.code yX3_isAllowed cX3_isAllowed 3 (some .boolean), Cond.methodLink RX3 47 yX3_in, Cond.static yX3_in, Cond.code yX3_in cX3_in 3 (some .boolean), Cond.methodLink RX3 71 yX3_isNumber, Cond.static yX3_isNumber, Cond.code yX3_isNumber cX3_isNumber 1 (some .boolean), Cond.methodLink RX3 83 yX3_leads, Cond.instanceMethod yX3_leads, Cond.selects RX3 yX3_leads yX3_leads, Cond.code yX3_leads cX3_leads 5 (some .boolean), Cond.methodLink RX3 68 yX3_isWider, Cond.static yX3_isWider, Cond.code yX3_isWider cX3_isWider 2 (some .boolean), Cond.methodLink RX3 65 yX3_isUp, Cond.instanceMethod yX3_isUp, Cond.selects RX3 yX3_isUp yX3_isUp, Cond.code yX3_isUp cX3_isUp 3 (some .boolean), Cond.fieldLink RX3 23 "ConversionTablesModel" "under" "[Z", Cond.methodLink RX3 55 yX3_isReference, Cond.instanceMethod yX3_isReference]
def wsX3_kindOf_r2 : List Cond := [Cond.selects RX3 yX3_isReference yX3_isReference, Cond.code yX3_isReference cX3_isReference 2 (some .boolean), Cond.methodLink RX3 74 yX3_isBox, Cond.static yX3_isBox, Cond.code yX3_isBox cX3_isBox 1 (some .boolean), Cond.methodLink RX3 77 yX3_isDown, Cond.instanceMethod yX3_isDown, Cond.selects RX3 yX3_isDown yX3_isDown, Cond.code yX3_isDown cX3_isDown 5 (some .boolean), Cond.fieldLink RX3 7 "ConversionTablesModel" "sort" "[I", Cond.fieldLink RX3 13 "ConversionTablesModel" "isFinal" "[Z", Cond.fieldLink RX3 17 "ConversionTablesModel" "elements" "[I"]
def wsX3_kindOf : List Cond := .code yX3_kindOf cX3_kindOf 5 (some .int) :: ((wsX3_kindOf_r1 ++ wsX3_kindOf_r2) ++ wsX30 ++ (vx_atN 8).filter goodWord)
def wsX3_kind_r1 : List Cond := [Cond.fieldLink RX3 40 "ConversionTablesModel" "thrown" "I", Cond.methodLink RX3 59 yX3_isType, Cond.instanceMethod yX3_isType, Cond.selects RX3 yX3_isType yX3_isType, Cond.initialized RX3, Cond.code yX3_isType cX3_isType 2 (some .boolean), Cond.fieldLink RX3 44 "ConversionTablesModel" "types" "I", Cond.methodLink RX3 47 yX3_in, Cond.static yX3_in, Cond.code yX3_in cX3_in 3 (some .boolean), Cond.methodLink RX3 86 yX3_kindOf, Cond.instanceMethod yX3_kindOf, Cond.selects RX3 yX3_kindOf yX3_kindOf, Cond.code yX3_kindOf cX3_kindOf 5 (some .int), Cond.methodLink RX3 80 yX3_isAllowed, Cond.static yX3_isAllowed, Cond.code yX3_isAllowed cX3_isAllowed 3 (some .boolean), Cond.methodLink RX3 71 yX3_isNumber, Cond.static yX3_isNumber, Cond.code yX3_isNumber cX3_isNumber 1 (some .boolean), Cond.methodLink RX3 83 yX3_leads, Cond.instanceMethod yX3_leads, Cond.selects RX3 yX3_leads yX3_leads, Cond.code yX3_leads cX3_leads 5 (some .boolean)]
def wsX3_kind_r2 : List Cond := [Cond.methodLink RX3 68 yX3_isWider, Cond.static yX3_isWider, Cond.code yX3_isWider cX3_isWider 2 (some .boolean), Cond.methodLink RX3 65 yX3_isUp, Cond.instanceMethod yX3_isUp, Cond.selects RX3 yX3_isUp yX3_isUp, Cond.code yX3_isUp cX3_isUp 3 (some .boolean), Cond.fieldLink RX3 23 "ConversionTablesModel" "under" "[Z", Cond.methodLink RX3 55 yX3_isReference, Cond.instanceMethod yX3_isReference, Cond.selects RX3 yX3_isReference yX3_isReference, Cond.code yX3_isReference cX3_isReference 2 (some .boolean), Cond.methodLink RX3 74 yX3_isBox, Cond.static yX3_isBox, Cond.code yX3_isBox cX3_isBox 1 (some .boolean), Cond.methodLink RX3 77 yX3_isDown, Cond.instanceMethod yX3_isDown, Cond.selects RX3 yX3_isDown yX3_isDown, Cond.code yX3_isDown cX3_isDown 5 (some .boolean), Cond.fieldLink RX3 7 "ConversionTablesModel" "sort" "[I", Cond.fieldLink RX3 13 "ConversionTablesModel" "isFinal" "[Z", Cond.fieldLink RX3 17 "ConversionTablesModel" "elements" "[I"]
def wsX3_kind : List Cond := .code yX3_kind cX3_kind 4 (some .int) :: ((wsX3_kind_r1 ++ wsX3_kind_r2) ++ wsX30 ++ (vx_atN 8).filter goodWord)
def wsX3_has : List Cond := .code yX3_has cX3_has 3 (some .boolean) :: ([.constantLong RX3 90 (65535), .constantLong RX3 92 (-128), .constantLong RX3 94 (127), .constantLong RX3 96 (-32768), .constantLong RX3 98 (32767), .constantLong RX3 100 (-2147483648), .constantLong RX3 102 (2147483647)])
def wsX3_given_r1 : List Cond := [Cond.fieldLink RX3 40 "ConversionTablesModel" "thrown" "I", Cond.methodLink RX3 59 yX3_isType, Cond.instanceMethod yX3_isType, Cond.selects RX3 yX3_isType yX3_isType, Cond.initialized RX3, Cond.code yX3_isType cX3_isType 2 (some .boolean), Cond.fieldLink RX3 44 "ConversionTablesModel" "types" "I", Cond.methodLink RX3 47 yX3_in, Cond.static yX3_in, Cond.code yX3_in cX3_in 3 (some .boolean), Cond.methodLink RX3 104 yX3_has, Cond.static yX3_has, Cond.code yX3_has cX3_has 3 (some .boolean), Cond.constantLong RX3 90 (65535), Cond.constantLong RX3 92 (-128), Cond.constantLong RX3 94 (127), Cond.constantLong RX3 96 (-32768), Cond.constantLong RX3 98 (32767), Cond.constantLong RX3 100 (-2147483648), Cond.constantLong RX3 102 (2147483647), Cond.methodLink RX3 74 yX3_isBox, Cond.static yX3_isBox, Cond.code yX3_isBox cX3_isBox 1 (some .boolean), Cond.methodLink RX3 86 yX3_kindOf]
def wsX3_given_r2 : List Cond := [Cond.instanceMethod yX3_kindOf, Cond.selects RX3 yX3_kindOf yX3_kindOf, Cond.code yX3_kindOf cX3_kindOf 5 (some .int), Cond.methodLink RX3 80 yX3_isAllowed, Cond.static yX3_isAllowed, Cond.code yX3_isAllowed cX3_isAllowed 3 (some .boolean), Cond.methodLink RX3 71 yX3_isNumber, Cond.static yX3_isNumber, Cond.code yX3_isNumber cX3_isNumber 1 (some .boolean), Cond.methodLink RX3 83 yX3_leads, Cond.instanceMethod yX3_leads, Cond.selects RX3 yX3_leads yX3_leads, Cond.code yX3_leads cX3_leads 5 (some .boolean), Cond.methodLink RX3 68 yX3_isWider, Cond.static yX3_isWider, Cond.code yX3_isWider cX3_isWider 2 (some .boolean), Cond.methodLink RX3 65 yX3_isUp, Cond.instanceMethod yX3_isUp, Cond.selects RX3 yX3_isUp yX3_isUp, Cond.code yX3_isUp cX3_isUp 3 (some .boolean), Cond.fieldLink RX3 23 "ConversionTablesModel" "under" "[Z", Cond.methodLink RX3 55 yX3_isReference, Cond.instanceMethod yX3_isReference, Cond.selects RX3 yX3_isReference yX3_isReference]
def wsX3_given_r3 : List Cond := [Cond.code yX3_isReference cX3_isReference 2 (some .boolean), Cond.methodLink RX3 77 yX3_isDown, Cond.instanceMethod yX3_isDown, Cond.selects RX3 yX3_isDown yX3_isDown, Cond.code yX3_isDown cX3_isDown 5 (some .boolean), Cond.fieldLink RX3 7 "ConversionTablesModel" "sort" "[I", Cond.fieldLink RX3 13 "ConversionTablesModel" "isFinal" "[Z", Cond.fieldLink RX3 17 "ConversionTablesModel" "elements" "[I"]
def wsX3_given : List Cond := .code yX3_given cX3_given 7 (some .int) :: ((wsX3_given_r1 ++ (wsX3_given_r2 ++ wsX3_given_r3)) ++ wsX30 ++ (vx_atN 8).filter goodWord)
def wsX3_targets_r1 : List Cond := [Cond.fieldLink RX3 40 "ConversionTablesModel" "thrown" "I", Cond.fieldLink RX3 44 "ConversionTablesModel" "types" "I", Cond.methodLink RX3 59 yX3_isType, Cond.instanceMethod yX3_isType, Cond.selects RX3 yX3_isType yX3_isType, Cond.initialized RX3, Cond.code yX3_isType cX3_isType 2 (some .boolean), Cond.methodLink RX3 47 yX3_in, Cond.static yX3_in, Cond.code yX3_in cX3_in 3 (some .boolean), Cond.methodLink RX3 86 yX3_kindOf, Cond.instanceMethod yX3_kindOf, Cond.selects RX3 yX3_kindOf yX3_kindOf, Cond.code yX3_kindOf cX3_kindOf 5 (some .int), Cond.methodLink RX3 80 yX3_isAllowed, Cond.static yX3_isAllowed, Cond.code yX3_isAllowed cX3_isAllowed 3 (some .boolean), Cond.methodLink RX3 71 yX3_isNumber, Cond.static yX3_isNumber, Cond.code yX3_isNumber cX3_isNumber 1 (some .boolean), Cond.methodLink RX3 83 yX3_leads, Cond.instanceMethod yX3_leads, Cond.selects RX3 yX3_leads yX3_leads, Cond.code yX3_leads cX3_leads 5 (some .boolean)]
def wsX3_targets_r2 : List Cond := [Cond.methodLink RX3 68 yX3_isWider, Cond.static yX3_isWider, Cond.code yX3_isWider cX3_isWider 2 (some .boolean), Cond.methodLink RX3 65 yX3_isUp, Cond.instanceMethod yX3_isUp, Cond.selects RX3 yX3_isUp yX3_isUp, Cond.code yX3_isUp cX3_isUp 3 (some .boolean), Cond.fieldLink RX3 23 "ConversionTablesModel" "under" "[Z", Cond.methodLink RX3 55 yX3_isReference, Cond.instanceMethod yX3_isReference, Cond.selects RX3 yX3_isReference yX3_isReference, Cond.code yX3_isReference cX3_isReference 2 (some .boolean), Cond.methodLink RX3 74 yX3_isBox, Cond.static yX3_isBox, Cond.code yX3_isBox cX3_isBox 1 (some .boolean), Cond.methodLink RX3 77 yX3_isDown, Cond.instanceMethod yX3_isDown, Cond.selects RX3 yX3_isDown yX3_isDown, Cond.code yX3_isDown cX3_isDown 5 (some .boolean), Cond.fieldLink RX3 7 "ConversionTablesModel" "sort" "[I", Cond.fieldLink RX3 13 "ConversionTablesModel" "isFinal" "[Z", Cond.fieldLink RX3 17 "ConversionTablesModel" "elements" "[I"]
def wsX3_targets : List Cond := .code yX3_targets cX3_targets 5 (some .int) :: ((wsX3_targets_r1 ++ wsX3_targets_r2) ++ wsX30 ++ (vx_atN 8).filter goodWord)
def wsX3_isBits : List Cond := .code yX3_isBits cX3_isBits 3 (some .boolean) :: ([.methodLink RX3 104 yX3_has, .static yX3_has, .initialized RX3, .code yX3_has cX3_has 3 (some .boolean), .constantLong RX3 90 (65535), .constantLong RX3 92 (-128), .constantLong RX3 94 (127), .constantLong RX3 96 (-32768), .constantLong RX3 98 (32767), .constantLong RX3 100 (-2147483648), .constantLong RX3 102 (2147483647)])
def wsX3_one : List Cond := .code yX3_one cX3_one 3 (some .long) :: ([.constantLong RX3 102 (2147483647), .constantLong RX3 108 (2139095040), .constantLong RX3 110 (2143289344), .constantLong RX3 112 (9223372036854775807), .constantLong RX3 114 (9218868437227405312), .constantLong RX3 116 (9221120237041090560)])
def wsX3_real : List Cond := .code yX3_real cX3_real 14 (some .long) :: ([])
def wsX3_wide : List Cond := .code yX3_wide cX3_wide 8 (some .long) :: ([.constantLong RX3 118 (-9223372036854775808), .constantLong RX3 120 (8388607), .constantLong RX3 114 (9218868437227405312), .constantLong RX3 116 (9221120237041090560), .constantLong RX3 122 (8388608)])
def wsX3_narrow : List Cond := .code yX3_narrow cX3_narrow 15 (some .long) :: ([.constantLong RX3 100 (-2147483648), .constantLong RX3 124 (4503599627370495), .constantLong RX3 108 (2139095040), .constantLong RX3 110 (2143289344), .constantLong RX3 126 (4503599627370496)])
def wsX3_whole : List Cond := .code yX3_whole cX3_whole 13 (some .long) :: ([.constantLong RX3 124 (4503599627370495), .constantLong RX3 126 (4503599627370496)])
def wsX3_cutTo : List Cond := .code yX3_cutTo cX3_cutTo 3 (some .long) :: ([.constantLong RX3 90 (65535)])
def wsX3_turned_r1 : List Cond := [Cond.fieldLink RX3 40 "ConversionTablesModel" "thrown" "I", Cond.constantLong RX3 128 (-1), Cond.constantLong RX3 133 (-2), Cond.constantLong RX3 100 (-2147483648), Cond.constantLong RX3 118 (-9223372036854775808), Cond.constantLong RX3 112 (9223372036854775807), Cond.constantLong RX3 102 (2147483647), Cond.methodLink RX3 59 yX3_isType, Cond.instanceMethod yX3_isType, Cond.selects RX3 yX3_isType yX3_isType, Cond.initialized RX3, Cond.code yX3_isType cX3_isType 2 (some .boolean), Cond.fieldLink RX3 44 "ConversionTablesModel" "types" "I", Cond.methodLink RX3 47 yX3_in, Cond.static yX3_in, Cond.code yX3_in cX3_in 3 (some .boolean), Cond.methodLink RX3 71 yX3_isNumber, Cond.static yX3_isNumber, Cond.code yX3_isNumber cX3_isNumber 1 (some .boolean), Cond.methodLink RX3 130 yX3_isBits, Cond.static yX3_isBits, Cond.code yX3_isBits cX3_isBits 3 (some .boolean), Cond.methodLink RX3 104 yX3_has, Cond.static yX3_has]
def wsX3_turned_r2 : List Cond := [Cond.code yX3_has cX3_has 3 (some .boolean), Cond.constantLong RX3 90 (65535), Cond.constantLong RX3 92 (-128), Cond.constantLong RX3 94 (127), Cond.constantLong RX3 96 (-32768), Cond.constantLong RX3 98 (32767), Cond.methodLink RX3 135 yX3_one, Cond.static yX3_one, Cond.code yX3_one cX3_one 3 (some .long), Cond.constantLong RX3 108 (2139095040), Cond.constantLong RX3 110 (2143289344), Cond.constantLong RX3 114 (9218868437227405312), Cond.constantLong RX3 116 (9221120237041090560), Cond.methodLink RX3 139 yX3_real, Cond.static yX3_real, Cond.code yX3_real cX3_real 14 (some .long), Cond.methodLink RX3 143 yX3_cutTo, Cond.static yX3_cutTo, Cond.code yX3_cutTo cX3_cutTo 3 (some .long), Cond.methodLink RX3 146 yX3_wide, Cond.static yX3_wide, Cond.code yX3_wide cX3_wide 8 (some .long), Cond.constantLong RX3 120 (8388607), Cond.constantLong RX3 122 (8388608)]
def wsX3_turned_r3 : List Cond := [Cond.methodLink RX3 150 yX3_narrow, Cond.static yX3_narrow, Cond.code yX3_narrow cX3_narrow 15 (some .long), Cond.constantLong RX3 124 (4503599627370495), Cond.constantLong RX3 126 (4503599627370496), Cond.methodLink RX3 153 yX3_whole, Cond.static yX3_whole, Cond.code yX3_whole cX3_whole 13 (some .long)]
def wsX3_turned : List Cond := .code yX3_turned cX3_turned 7 (some .long) :: ((wsX3_turned_r1 ++ (wsX3_turned_r2 ++ wsX3_turned_r3)) ++ wsX30 ++ (vx_atN 8).filter goodWord)
def wsX3_numberOf : List Cond := .code yX3_numberOf cX3_numberOf 2 (some .int) :: ([.methodLink RX3 74 yX3_isBox, .static yX3_isBox, .initialized RX3, .code yX3_isBox cX3_isBox 1 (some .boolean), .methodLink RX3 47 yX3_in, .static yX3_in, .code yX3_in cX3_in 3 (some .boolean), .methodLink RX3 71 yX3_isNumber, .static yX3_isNumber, .code yX3_isNumber cX3_isNumber 1 (some .boolean)])
def wsX3_promotedOf : List Cond := .code yX3_promotedOf cX3_promotedOf 1 (some .int) :: ([])
def wsX3_bothOf : List Cond := .code yX3_bothOf cX3_bothOf 4 (some .int) :: ([.methodLink RX3 157 yX3_promotedOf, .static yX3_promotedOf, .initialized RX3, .code yX3_promotedOf cX3_promotedOf 1 (some .int)])
def wsX3_promoted : List Cond := .code yX3_promoted cX3_promoted 3 (some .int) :: ([.fieldLink RX3 40 "ConversionTablesModel" "thrown" "I", .methodLink RX3 59 yX3_isType, .instanceMethod yX3_isType, .selects RX3 yX3_isType yX3_isType, .initialized RX3, .code yX3_isType cX3_isType 2 (some .boolean), .fieldLink RX3 44 "ConversionTablesModel" "types" "I", .methodLink RX3 47 yX3_in, .static yX3_in, .code yX3_in cX3_in 3 (some .boolean), .methodLink RX3 161 yX3_numberOf, .static yX3_numberOf, .code yX3_numberOf cX3_numberOf 2 (some .int), .methodLink RX3 74 yX3_isBox, .static yX3_isBox, .code yX3_isBox cX3_isBox 1 (some .boolean), .methodLink RX3 71 yX3_isNumber, .static yX3_isNumber, .code yX3_isNumber cX3_isNumber 1 (some .boolean), .methodLink RX3 157 yX3_promotedOf, .static yX3_promotedOf, .code yX3_promotedOf cX3_promotedOf 1 (some .int)] ++ wsX30 ++ (vx_atN 8).filter goodWord)
def wsX3_both_r1 : List Cond := [Cond.fieldLink RX3 40 "ConversionTablesModel" "thrown" "I", Cond.methodLink RX3 59 yX3_isType, Cond.instanceMethod yX3_isType, Cond.selects RX3 yX3_isType yX3_isType, Cond.initialized RX3, Cond.code yX3_isType cX3_isType 2 (some .boolean), Cond.fieldLink RX3 44 "ConversionTablesModel" "types" "I", Cond.methodLink RX3 47 yX3_in, Cond.static yX3_in, Cond.code yX3_in cX3_in 3 (some .boolean), Cond.methodLink RX3 161 yX3_numberOf, Cond.static yX3_numberOf, Cond.code yX3_numberOf cX3_numberOf 2 (some .int), Cond.methodLink RX3 74 yX3_isBox, Cond.static yX3_isBox, Cond.code yX3_isBox cX3_isBox 1 (some .boolean), Cond.methodLink RX3 71 yX3_isNumber, Cond.static yX3_isNumber, Cond.code yX3_isNumber cX3_isNumber 1 (some .boolean), Cond.methodLink RX3 164 yX3_bothOf, Cond.static yX3_bothOf, Cond.code yX3_bothOf cX3_bothOf 4 (some .int), Cond.methodLink RX3 157 yX3_promotedOf, Cond.static yX3_promotedOf]
def wsX3_both_r2 : List Cond := [Cond.code yX3_promotedOf cX3_promotedOf 1 (some .int)]
def wsX3_both : List Cond := .code yX3_both cX3_both 5 (some .int) :: ((wsX3_both_r1 ++ wsX3_both_r2) ++ wsX30 ++ (vx_atN 8).filter goodWord)
def wsX3_conditional_r1 : List Cond := [Cond.fieldLink RX3 40 "ConversionTablesModel" "thrown" "I", Cond.fieldLink RX3 23 "ConversionTablesModel" "under" "[Z", Cond.methodLink RX3 59 yX3_isType, Cond.instanceMethod yX3_isType, Cond.selects RX3 yX3_isType yX3_isType, Cond.initialized RX3, Cond.code yX3_isType cX3_isType 2 (some .boolean), Cond.fieldLink RX3 44 "ConversionTablesModel" "types" "I", Cond.methodLink RX3 47 yX3_in, Cond.static yX3_in, Cond.code yX3_in cX3_in 3 (some .boolean), Cond.methodLink RX3 161 yX3_numberOf, Cond.static yX3_numberOf, Cond.code yX3_numberOf cX3_numberOf 2 (some .int), Cond.methodLink RX3 74 yX3_isBox, Cond.static yX3_isBox, Cond.code yX3_isBox cX3_isBox 1 (some .boolean), Cond.methodLink RX3 71 yX3_isNumber, Cond.static yX3_isNumber, Cond.code yX3_isNumber cX3_isNumber 1 (some .boolean), Cond.methodLink RX3 164 yX3_bothOf, Cond.static yX3_bothOf, Cond.code yX3_bothOf cX3_bothOf 4 (some .int), Cond.methodLink RX3 157 yX3_promotedOf]
def wsX3_conditional_r2 : List Cond := [Cond.static yX3_promotedOf, Cond.code yX3_promotedOf cX3_promotedOf 1 (some .int)]
def wsX3_conditional : List Cond := .code yX3_conditional cX3_conditional 7 (some .int) :: ((wsX3_conditional_r1 ++ wsX3_conditional_r2) ++ wsX30 ++ (vx_atN 8).filter goodWord)
def wsX3_isObject : List Cond := .code yX3_isObject cX3_isObject 2 (some .boolean) :: ([.fieldLink RX3 168 "ConversionTablesModel" "objects" "I", .methodLink RX3 47 yX3_in, .static yX3_in, .initialized RX3, .code yX3_in cX3_in 3 (some .boolean)] ++ wsX30)
def wsX3_keep : List Cond := .code yX3_keep cX3_keep 4 (some .int) :: ([.fieldLink RX3 26 "ConversionTablesModel" "kept" "[I", .fieldLink RX3 168 "ConversionTablesModel" "objects" "I", .fieldLink RX3 29 "ConversionTablesModel" "bits" "[J"] ++ wsX30 ++ (vx_atN 8).filter goodWord)
def wsX3_box_r1 : List Cond := [Cond.fieldLink RX3 40 "ConversionTablesModel" "thrown" "I", Cond.fieldLink RX3 168 "ConversionTablesModel" "objects" "I", Cond.methodLink RX3 59 yX3_isType, Cond.instanceMethod yX3_isType, Cond.selects RX3 yX3_isType yX3_isType, Cond.initialized RX3, Cond.code yX3_isType cX3_isType 2 (some .boolean), Cond.fieldLink RX3 44 "ConversionTablesModel" "types" "I", Cond.methodLink RX3 47 yX3_in, Cond.static yX3_in, Cond.code yX3_in cX3_in 3 (some .boolean), Cond.methodLink RX3 74 yX3_isBox, Cond.static yX3_isBox, Cond.code yX3_isBox cX3_isBox 1 (some .boolean), Cond.methodLink RX3 130 yX3_isBits, Cond.static yX3_isBits, Cond.code yX3_isBits cX3_isBits 3 (some .boolean), Cond.methodLink RX3 104 yX3_has, Cond.static yX3_has, Cond.code yX3_has cX3_has 3 (some .boolean), Cond.constantLong RX3 90 (65535), Cond.constantLong RX3 92 (-128), Cond.constantLong RX3 94 (127), Cond.constantLong RX3 96 (-32768)]
def wsX3_box_r2 : List Cond := [Cond.constantLong RX3 98 (32767), Cond.constantLong RX3 100 (-2147483648), Cond.constantLong RX3 102 (2147483647), Cond.methodLink RX3 135 yX3_one, Cond.static yX3_one, Cond.code yX3_one cX3_one 3 (some .long), Cond.constantLong RX3 108 (2139095040), Cond.constantLong RX3 110 (2143289344), Cond.constantLong RX3 112 (9223372036854775807), Cond.constantLong RX3 114 (9218868437227405312), Cond.constantLong RX3 116 (9221120237041090560), Cond.methodLink RX3 171 yX3_keep, Cond.instanceMethod yX3_keep, Cond.selects RX3 yX3_keep yX3_keep, Cond.code yX3_keep cX3_keep 4 (some .int), Cond.fieldLink RX3 26 "ConversionTablesModel" "kept" "[I", Cond.fieldLink RX3 29 "ConversionTablesModel" "bits" "[J"]
def wsX3_box : List Cond := .code yX3_box cX3_box 4 (some .int) :: ((wsX3_box_r1 ++ wsX3_box_r2) ++ wsX30 ++ (vx_atN 8).filter goodWord)
def wsX3_make : List Cond := .code yX3_make cX3_make 3 (some .int) :: ([.fieldLink RX3 40 "ConversionTablesModel" "thrown" "I", .fieldLink RX3 7 "ConversionTablesModel" "sort" "[I", .fieldLink RX3 168 "ConversionTablesModel" "objects" "I", .methodLink RX3 59 yX3_isType, .instanceMethod yX3_isType, .selects RX3 yX3_isType yX3_isType, .initialized RX3, .code yX3_isType cX3_isType 2 (some .boolean), .fieldLink RX3 44 "ConversionTablesModel" "types" "I", .methodLink RX3 47 yX3_in, .static yX3_in, .code yX3_in cX3_in 3 (some .boolean), .methodLink RX3 171 yX3_keep, .instanceMethod yX3_keep, .selects RX3 yX3_keep yX3_keep, .code yX3_keep cX3_keep 4 (some .int), .fieldLink RX3 26 "ConversionTablesModel" "kept" "[I", .fieldLink RX3 29 "ConversionTablesModel" "bits" "[J"] ++ wsX30 ++ (vx_atN 8).filter goodWord)
def wsX3_typeOf : List Cond := .code yX3_typeOf cX3_typeOf 2 (some .int) :: ([.fieldLink RX3 40 "ConversionTablesModel" "thrown" "I", .fieldLink RX3 26 "ConversionTablesModel" "kept" "[I", .methodLink RX3 175 yX3_isObject, .instanceMethod yX3_isObject, .selects RX3 yX3_isObject yX3_isObject, .initialized RX3, .code yX3_isObject cX3_isObject 2 (some .boolean), .fieldLink RX3 168 "ConversionTablesModel" "objects" "I", .methodLink RX3 47 yX3_in, .static yX3_in, .code yX3_in cX3_in 3 (some .boolean)] ++ wsX30 ++ (vx_atN 8).filter goodWord)
def wsX3_unboxed : List Cond := .code yX3_unboxed cX3_unboxed 3 (some .long) :: ([.fieldLink RX3 40 "ConversionTablesModel" "thrown" "I", .constantLong RX3 128 (-1), .constantLong RX3 133 (-2), .fieldLink RX3 26 "ConversionTablesModel" "kept" "[I", .fieldLink RX3 29 "ConversionTablesModel" "bits" "[J", .methodLink RX3 175 yX3_isObject, .instanceMethod yX3_isObject, .selects RX3 yX3_isObject yX3_isObject, .initialized RX3, .code yX3_isObject cX3_isObject 2 (some .boolean), .fieldLink RX3 168 "ConversionTablesModel" "objects" "I", .methodLink RX3 47 yX3_in, .static yX3_in, .code yX3_in cX3_in 3 (some .boolean), .methodLink RX3 59 yX3_isType, .instanceMethod yX3_isType, .selects RX3 yX3_isType yX3_isType, .code yX3_isType cX3_isType 2 (some .boolean), .fieldLink RX3 44 "ConversionTablesModel" "types" "I", .methodLink RX3 74 yX3_isBox, .static yX3_isBox, .code yX3_isBox cX3_isBox 1 (some .boolean)] ++ wsX30 ++ (vx_atN 8).filter goodWord)
def wsX3_cast_r1 : List Cond := [Cond.fieldLink RX3 40 "ConversionTablesModel" "thrown" "I", Cond.fieldLink RX3 26 "ConversionTablesModel" "kept" "[I", Cond.fieldLink RX3 23 "ConversionTablesModel" "under" "[Z", Cond.methodLink RX3 175 yX3_isObject, Cond.instanceMethod yX3_isObject, Cond.selects RX3 yX3_isObject yX3_isObject, Cond.initialized RX3, Cond.code yX3_isObject cX3_isObject 2 (some .boolean), Cond.fieldLink RX3 168 "ConversionTablesModel" "objects" "I", Cond.methodLink RX3 47 yX3_in, Cond.static yX3_in, Cond.code yX3_in cX3_in 3 (some .boolean), Cond.methodLink RX3 59 yX3_isType, Cond.instanceMethod yX3_isType, Cond.selects RX3 yX3_isType yX3_isType, Cond.code yX3_isType cX3_isType 2 (some .boolean), Cond.fieldLink RX3 44 "ConversionTablesModel" "types" "I", Cond.methodLink RX3 55 yX3_isReference, Cond.instanceMethod yX3_isReference, Cond.selects RX3 yX3_isReference yX3_isReference, Cond.code yX3_isReference cX3_isReference 2 (some .boolean), Cond.methodLink RX3 86 yX3_kindOf, Cond.instanceMethod yX3_kindOf, Cond.selects RX3 yX3_kindOf yX3_kindOf]
def wsX3_cast_r2 : List Cond := [Cond.code yX3_kindOf cX3_kindOf 5 (some .int), Cond.methodLink RX3 80 yX3_isAllowed, Cond.static yX3_isAllowed, Cond.code yX3_isAllowed cX3_isAllowed 3 (some .boolean), Cond.methodLink RX3 71 yX3_isNumber, Cond.static yX3_isNumber, Cond.code yX3_isNumber cX3_isNumber 1 (some .boolean), Cond.methodLink RX3 83 yX3_leads, Cond.instanceMethod yX3_leads, Cond.selects RX3 yX3_leads yX3_leads, Cond.code yX3_leads cX3_leads 5 (some .boolean), Cond.methodLink RX3 68 yX3_isWider, Cond.static yX3_isWider, Cond.code yX3_isWider cX3_isWider 2 (some .boolean), Cond.methodLink RX3 65 yX3_isUp, Cond.instanceMethod yX3_isUp, Cond.selects RX3 yX3_isUp yX3_isUp, Cond.code yX3_isUp cX3_isUp 3 (some .boolean), Cond.methodLink RX3 74 yX3_isBox, Cond.static yX3_isBox, Cond.code yX3_isBox cX3_isBox 1 (some .boolean), Cond.methodLink RX3 77 yX3_isDown, Cond.instanceMethod yX3_isDown, Cond.selects RX3 yX3_isDown yX3_isDown]
def wsX3_cast_r3 : List Cond := [Cond.code yX3_isDown cX3_isDown 5 (some .boolean), Cond.fieldLink RX3 7 "ConversionTablesModel" "sort" "[I", Cond.fieldLink RX3 13 "ConversionTablesModel" "isFinal" "[Z", Cond.fieldLink RX3 17 "ConversionTablesModel" "elements" "[I"]
def wsX3_cast : List Cond := .code yX3_cast cX3_cast 7 (some .int) :: ((wsX3_cast_r1 ++ (wsX3_cast_r2 ++ wsX3_cast_r3)) ++ wsX30 ++ (vx_atN 8).filter goodWord)
def wsX3_count : List Cond := .code yX3_count cX3_count 2 (some .int) :: ([.fieldLink RX3 40 "ConversionTablesModel" "thrown" "I", .fieldLink RX3 44 "ConversionTablesModel" "types" "I", .fieldLink RX3 168 "ConversionTablesModel" "objects" "I"] ++ wsX30)
def wsJx3273f_init_da8c8 : List Cond := .code yJx3273f_init_da8c8 cJx3273f_init_da8c8 1 none :: ([])
def wsJ9_max_7cf53 : List Cond := .code yJ9_max_7cf53 cJ9_max_7cf53 2 (some .int) :: ([])
def wsJ9_max_f86c9 : List Cond := .code yJ9_max_f86c9 cJ9_max_f86c9 4 (some .long) :: ([])
def wsJ9_min_f86c9 : List Cond := .code yJ9_min_f86c9 cJ9_min_f86c9 4 (some .long) :: ([])
def wsJx5d777_init_da8c8 : List Cond := .code yJx5d777_init_da8c8 cJx5d777_init_da8c8 1 none :: ([])
def wsJx5d777_fillInStackTrace_cddbd : List Cond := .code yJx5d777_fillInStackTrace_cddbd cJx5d777_fillInStackTrace_cddbd 1 (some (.object "java/lang/Throwable")) :: ([.fieldLink RJx5d777 10 "java/lang/NullPointerException" "extendedMessageState" "I", .fieldLink RJx5d777 20 "java/lang/NullPointerException" "extendedMessage" "Ljava/lang/String;"] ++ wsJx5d7770)
def wsL_unboxed_r1 : List Cond := [Cond.classLink RL 13 "java/lang/ClassCastException", Cond.classLink RL 15 "java/lang/NullPointerException", Cond.methodLink RL 7 yX2_unboxed, Cond.instanceMethod yX2_unboxed, Cond.selects RX2 yX2_unboxed yX2_unboxed, Cond.initialized RX2, Cond.code yX2_unboxed cX2_unboxed 3 (some .long), Cond.fieldLink RX2 12 "ConversionTables" "types" "LConversionTables$TypeTable;", Cond.constantLong RX2 104 (-1), Cond.constantLong RX2 106 (-2), Cond.fieldLink RX2 16 "ConversionTables" "objectTypes" "[I", Cond.classLink RX2 222 RJx5d777, Cond.instantiable RJx5d777 8, Cond.initialized RJx5d777, Cond.classLink RX2 225 RJx3273f, Cond.instantiable RJx3273f 6, Cond.initialized RJx3273f, Cond.fieldLink RX2 20 "ConversionTables" "objectBits" "[J", Cond.methodLink RX2 219 yX2_isObject, Cond.instanceMethod yX2_isObject, Cond.selects RX2 yX2_isObject yX2_isObject, Cond.code yX2_isObject cX2_isObject 2 (some .boolean), Cond.fieldLink RX2 24 "ConversionTables" "objectCount" "I", Cond.methodLink RX2 50 yX1_has]
def wsL_unboxed_r2 : List Cond := [Cond.instanceMethod yX1_has, Cond.selects RX1 yX1_has yX1_has, Cond.initialized RX1, Cond.code yX1_has cX1_has 2 (some .boolean), Cond.fieldLink RX1 26 "ConversionTables$TypeTable" "size" "I", Cond.methodLink RX2 135 yX2_isBox, Cond.static yX2_isBox, Cond.code yX2_isBox cX2_isBox 1 (some .boolean)]
def wsL_unboxed : List Cond := .codeWith yL_unboxed cL_unboxed 5 (some .int) [(0, 9, 12, 13), (0, 9, 16, 15)] :: ((wsL_unboxed_r1 ++ wsL_unboxed_r2) ++ wsX20 ++ wsJx5d7770 ++ wsJx3273f0 ++ wsX10 ++ (vx_atN 8).filter goodWord)
def wsL_law0_r1 : List Cond := [Cond.classLink RL 8 RX2, Cond.instantiable RX2 4, Cond.initialized RX2, Cond.classLink RL 18 RX3, Cond.instantiable RX3 10, Cond.initialized RX3, Cond.arrayClass .long, Cond.constantLong RL 49 (4294967295), Cond.methodLink RL 17 yX2_init, Cond.instanceMethod yX2_init, Cond.code yX2_init cX2_init 1 none, Cond.methodLink RX2 3 objectInit, Cond.instanceMethod objectInit, Cond.code objectInit ⟨#[0xb1]⟩ 1 none, Cond.classLink RX2 9 RX1, Cond.instantiable RX1 5, Cond.initialized RX1, Cond.fieldLink RX2 12 "ConversionTables" "types" "LConversionTables$TypeTable;", Cond.arrayClass .int, Cond.fieldLink RX2 16 "ConversionTables" "objectTypes" "[I", Cond.fieldLink RX2 20 "ConversionTables" "objectBits" "[J", Cond.fieldLink RX2 24 "ConversionTables" "objectCount" "I", Cond.methodLink RX2 11 yX1_init, Cond.instanceMethod yX1_init]
def wsL_law0_r2 : List Cond := [Cond.code yX1_init cX1_init 7 none, Cond.methodLink RX1 3 objectInit, Cond.fieldLink RX1 9 "ConversionTables$TypeTable" "sorts" "[I", Cond.arrayClass .boolean, Cond.fieldLink RX1 15 "ConversionTables$TypeTable" "finals" "[Z", Cond.fieldLink RX1 19 "ConversionTables$TypeTable" "elements" "[I", Cond.fieldLink RX1 22 "ConversionTables$TypeTable" "aboves" "[J", Cond.fieldLink RX1 26 "ConversionTables$TypeTable" "size" "I", Cond.methodLink RX1 30 yX1_setKnown, Cond.instanceMethod yX1_setKnown, Cond.selects RX1 yX1_setKnown yX1_setKnown, Cond.code yX1_setKnown cX1_setKnown 6 none, Cond.methodLink RX1 34 yX1_bit, Cond.static yX1_bit, Cond.code yX1_bit cX1_bit 1 (some .long), Cond.methodLink RL 20 yX3_init, Cond.instanceMethod yX3_init, Cond.code yX3_init cX3_init 2 none, Cond.methodLink RX3 1 objectInit, Cond.fieldLink RX3 7 "ConversionTablesModel" "sort" "[I", Cond.fieldLink RX3 13 "ConversionTablesModel" "isFinal" "[Z", Cond.fieldLink RX3 17 "ConversionTablesModel" "elements" "[I", Cond.fieldLink RX3 20 "ConversionTablesModel" "above" "[I", Cond.fieldLink RX3 23 "ConversionTablesModel" "under" "[Z"]
def wsL_law0_r3 : List Cond := [Cond.fieldLink RX3 26 "ConversionTablesModel" "kept" "[I", Cond.fieldLink RX3 29 "ConversionTablesModel" "bits" "[J", Cond.methodLink RX3 33 yX3_add, Cond.instanceMethod yX3_add, Cond.selects RX3 yX3_add yX3_add, Cond.code yX3_add cX3_add 7 (some .int), Cond.fieldLink RX3 44 "ConversionTablesModel" "types" "I", Cond.methodLink RX3 37 yX3_fill, Cond.instanceMethod yX3_fill, Cond.selects RX3 yX3_fill yX3_fill, Cond.code yX3_fill cX3_fill 4 none, Cond.methodLink RX3 51 yX3_comes, Cond.instanceMethod yX3_comes, Cond.selects RX3 yX3_comes yX3_comes, Cond.code yX3_comes cX3_comes 5 (some .boolean), Cond.methodLink RX3 55 yX3_isReference, Cond.instanceMethod yX3_isReference, Cond.selects RX3 yX3_isReference yX3_isReference, Cond.code yX3_isReference cX3_isReference 2 (some .boolean), Cond.methodLink RL 21 yX2_newClass, Cond.instanceMethod yX2_newClass, Cond.selects RX2 yX2_newClass yX2_newClass, Cond.code yX2_newClass cX2_newClass 5 (some .int), Cond.methodLink RX2 28 yX2_isTypeOrNone]
def wsL_law0_r4 : List Cond := [Cond.instanceMethod yX2_isTypeOrNone, Cond.selects RX2 yX2_isTypeOrNone yX2_isTypeOrNone, Cond.code yX2_isTypeOrNone cX2_isTypeOrNone 2 (some .boolean), Cond.methodLink RX2 50 yX1_has, Cond.instanceMethod yX1_has, Cond.selects RX1 yX1_has yX1_has, Cond.code yX1_has cX1_has 2 (some .boolean), Cond.methodLink RX2 32 yX1_mayHaveSubclass, Cond.instanceMethod yX1_mayHaveSubclass, Cond.selects RX1 yX1_mayHaveSubclass yX1_mayHaveSubclass, Cond.code yX1_mayHaveSubclass cX1_mayHaveSubclass 2 (some .boolean), Cond.methodLink RX2 35 yX2_isInterfaceOrNone, Cond.instanceMethod yX2_isInterfaceOrNone, Cond.selects RX2 yX2_isInterfaceOrNone yX2_isInterfaceOrNone, Cond.code yX2_isInterfaceOrNone cX2_isInterfaceOrNone 2 (some .boolean), Cond.methodLink RX2 60 yX1_sortOf, Cond.instanceMethod yX1_sortOf, Cond.selects RX1 yX1_sortOf yX1_sortOf, Cond.code yX1_sortOf cX1_sortOf 2 (some .int), Cond.methodLink RX2 38 yX1_isFull, Cond.instanceMethod yX1_isFull, Cond.selects RX1 yX1_isFull yX1_isFull, Cond.code yX1_isFull cX1_isFull 1 (some .boolean), Cond.methodLink RX2 42 yX1_addClass]
def wsL_law0_r5 : List Cond := [Cond.instanceMethod yX1_addClass, Cond.selects RX1 yX1_addClass yX1_addClass, Cond.code yX1_addClass cX1_addClass 4 (some .int), Cond.methodLink RX1 44 yX1_aboveOrNothing, Cond.instanceMethod yX1_aboveOrNothing, Cond.selects RX1 yX1_aboveOrNothing yX1_aboveOrNothing, Cond.code yX1_aboveOrNothing cX1_aboveOrNothing 2 (some .long), Cond.methodLink RX1 47 yX1_add, Cond.instanceMethod yX1_add, Cond.selects RX1 yX1_add yX1_add, Cond.code yX1_add cX1_add 6 (some .int), Cond.methodLink RL 25 yX3_newClass, Cond.instanceMethod yX3_newClass, Cond.selects RX3 yX3_newClass yX3_newClass, Cond.code yX3_newClass cX3_newClass 5 (some .int), Cond.fieldLink RX3 40 "ConversionTablesModel" "thrown" "I", Cond.methodLink RX3 59 yX3_isType, Cond.instanceMethod yX3_isType, Cond.selects RX3 yX3_isType yX3_isType, Cond.code yX3_isType cX3_isType 2 (some .boolean), Cond.methodLink RX3 47 yX3_in, Cond.static yX3_in, Cond.code yX3_in cX3_in 3 (some .boolean), Cond.methodLink RX3 62 yX3_isFace]
def wsL_law0_r6 : List Cond := [Cond.instanceMethod yX3_isFace, Cond.selects RX3 yX3_isFace yX3_isFace, Cond.code yX3_isFace cX3_isFace 2 (some .boolean), Cond.methodLink RL 26 yX2_newInterface, Cond.instanceMethod yX2_newInterface, Cond.selects RX2 yX2_newInterface yX2_newInterface, Cond.code yX2_newInterface cX2_newInterface 3 (some .int), Cond.methodLink RX2 46 yX1_addInterface, Cond.instanceMethod yX1_addInterface, Cond.selects RX1 yX1_addInterface yX1_addInterface, Cond.code yX1_addInterface cX1_addInterface 5 (some .int), Cond.methodLink RL 30 yX3_newInterface, Cond.instanceMethod yX3_newInterface, Cond.selects RX3 yX3_newInterface yX3_newInterface, Cond.code yX3_newInterface cX3_newInterface 4 (some .int), Cond.methodLink RL 31 yX2_array, Cond.instanceMethod yX2_array, Cond.selects RX2 yX2_array yX2_array, Cond.code yX2_array cX2_array 3 (some .int), Cond.methodLink RX2 53 yX1_arrayOf, Cond.instanceMethod yX1_arrayOf, Cond.selects RX1 yX1_arrayOf yX1_arrayOf, Cond.code yX1_arrayOf cX1_arrayOf 3 (some .int), Cond.methodLink RX2 57 yX1_addArray]
def wsL_law0_r7 : List Cond := [Cond.instanceMethod yX1_addArray, Cond.selects RX1 yX1_addArray yX1_addArray, Cond.code yX1_addArray cX1_addArray 4 (some .int), Cond.methodLink RX1 51 yX1_placeArrays, Cond.instanceMethod yX1_placeArrays, Cond.selects RX1 yX1_placeArrays yX1_placeArrays, Cond.code yX1_placeArrays cX1_placeArrays 3 none, Cond.methodLink RX1 55 yX1_isUnder, Cond.instanceMethod yX1_isUnder, Cond.selects RX1 yX1_isUnder yX1_isUnder, Cond.code yX1_isUnder cX1_isUnder 3 (some .boolean), Cond.methodLink RL 35 yX3_array, Cond.instanceMethod yX3_array, Cond.selects RX3 yX3_array yX3_array, Cond.code yX3_array cX3_array 3 (some .int), Cond.methodLink RL 36 yX2_type, Cond.instanceMethod yX2_type, Cond.selects RX2 yX2_type yX2_type, Cond.code yX2_type cX2_type 3 (some .int), Cond.methodLink RX2 63 yX1_isFinal, Cond.instanceMethod yX1_isFinal, Cond.selects RX1 yX1_isFinal yX1_isFinal, Cond.code yX1_isFinal cX1_isFinal 2 (some .boolean), Cond.methodLink RX2 66 yX1_elementOf]
def wsL_law0_r8 : List Cond := [Cond.instanceMethod yX1_elementOf, Cond.selects RX1 yX1_elementOf yX1_elementOf, Cond.code yX1_elementOf cX1_elementOf 2 (some .int), Cond.methodLink RX2 69 yX1_countAbove, Cond.instanceMethod yX1_countAbove, Cond.selects RX1 yX1_countAbove yX1_countAbove, Cond.code yX1_countAbove cX1_countAbove 2 (some .int), Cond.methodLink RX1 38 yJ13_bitCount_95d88, Cond.static yJ13_bitCount_95d88, Cond.initialized RJ13, Cond.code yJ13_bitCount_95d88 cJ13_bitCount_95d88 2 (some .int), Cond.constantLong RJ13 314 (6148914691236517205), Cond.constantLong RJ13 316 (3689348814741910323), Cond.constantLong RJ13 318 (1085102592571150095), Cond.methodLink RL 39 yX3_type, Cond.instanceMethod yX3_type, Cond.selects RX3 yX3_type yX3_type, Cond.code yX3_type cX3_type 5 (some .int), Cond.methodLink RL 40 yX2_under, Cond.instanceMethod yX2_under, Cond.selects RX2 yX2_under yX2_under, Cond.code yX2_under cX2_under 3 (some .int), Cond.methodLink RX2 72 yX2_isPrimitive, Cond.static yX2_isPrimitive]
def wsL_law0_r9 : List Cond := [Cond.code yX2_isPrimitive cX2_isPrimitive 1 (some .boolean), Cond.methodLink RX2 75 yX1_isUnder, Cond.methodLink RL 43 yX3_under, Cond.instanceMethod yX3_under, Cond.selects RX3 yX3_under yX3_under, Cond.code yX3_under cX3_under 3 (some .int), Cond.methodLink RL 44 yX2_kind, Cond.instanceMethod yX2_kind, Cond.selects RX2 yX2_kind yX2_kind, Cond.code yX2_kind cX2_kind 4 (some .int), Cond.methodLink RX2 79 yX2_isContext, Cond.static yX2_isContext, Cond.code yX2_isContext cX2_isContext 1 (some .boolean), Cond.methodLink RX2 82 yX2_allowedKind, Cond.instanceMethod yX2_allowedKind, Cond.selects RX2 yX2_allowedKind yX2_allowedKind, Cond.code yX2_allowedKind cX2_allowedKind 5 (some .int), Cond.fieldLink RX2 141 "ConversionTables" "ALLOWED_KINDS" "[I", Cond.methodLink RX2 101 yX2_isNumber, Cond.static yX2_isNumber, Cond.code yX2_isNumber cX2_isNumber 1 (some .boolean), Cond.methodLink RX2 138 yX2_stepsBetween, Cond.instanceMethod yX2_stepsBetween, Cond.selects RX2 yX2_stepsBetween yX2_stepsBetween]
def wsL_law0_r10 : List Cond := [Cond.code yX2_stepsBetween cX2_stepsBetween 3 (some .int), Cond.methodLink RX2 144 yX2_stepBetweenPrimitives, Cond.static yX2_stepBetweenPrimitives, Cond.code yX2_stepBetweenPrimitives cX2_stepBetweenPrimitives 2 (some .int), Cond.methodLink RX2 156 yX2_isWider, Cond.static yX2_isWider, Cond.code yX2_isWider cX2_isWider 3 (some .boolean), Cond.methodLink RX2 147 yX2_stepsByBoxing, Cond.instanceMethod yX2_stepsByBoxing, Cond.selects RX2 yX2_stepsByBoxing yX2_stepsByBoxing, Cond.code yX2_stepsByBoxing cX2_stepsByBoxing 4 (some .int), Cond.methodLink RX2 129 yX2_boxed, Cond.static yX2_boxed, Cond.code yX2_boxed cX2_boxed 1 (some .int), Cond.methodLink RX2 150 yX2_stepsByUnboxing, Cond.instanceMethod yX2_stepsByUnboxing, Cond.selects RX2 yX2_stepsByUnboxing yX2_stepsByUnboxing, Cond.code yX2_stepsByUnboxing cX2_stepsByUnboxing 4 (some .int), Cond.methodLink RX2 135 yX2_isBox, Cond.static yX2_isBox, Cond.code yX2_isBox cX2_isBox 1 (some .boolean), Cond.methodLink RX2 159 yX1_goesDown, Cond.instanceMethod yX1_goesDown, Cond.selects RX1 yX1_goesDown yX1_goesDown]
def wsL_law0_r11 : List Cond := [Cond.code yX1_goesDown cX1_goesDown 6 (some .boolean), Cond.methodLink RX1 59 yX1_isArrayOfReferences, Cond.instanceMethod yX1_isArrayOfReferences, Cond.selects RX1 yX1_isArrayOfReferences yX1_isArrayOfReferences, Cond.code yX1_isArrayOfReferences cX1_isArrayOfReferences 2 (some .boolean), Cond.methodLink RX1 63 yX1_mayShareObjects, Cond.instanceMethod yX1_mayShareObjects, Cond.selects RX1 yX1_mayShareObjects yX1_mayShareObjects, Cond.code yX1_mayShareObjects cX1_mayShareObjects 3 (some .boolean), Cond.methodLink RX1 66 yX1_isOpenClass, Cond.instanceMethod yX1_isOpenClass, Cond.selects RX1 yX1_isOpenClass yX1_isOpenClass, Cond.code yX1_isOpenClass cX1_isOpenClass 2 (some .boolean), Cond.methodLink RX2 115 yX2_withoutBox, Cond.static yX2_withoutBox, Cond.code yX2_withoutBox cX2_withoutBox 1 (some .int), Cond.methodLink RX2 153 yX2_stepBetweenReferences, Cond.instanceMethod yX2_stepBetweenReferences, Cond.selects RX2 yX2_stepBetweenReferences yX2_stepBetweenReferences, Cond.code yX2_stepBetweenReferences cX2_stepBetweenReferences 3 (some .int), Cond.methodLink RL 48 yX3_kind, Cond.instanceMethod yX3_kind, Cond.selects RX3 yX3_kind yX3_kind, Cond.code yX3_kind cX3_kind 4 (some .int)]
def wsL_law0_r12 : List Cond := [Cond.methodLink RX3 86 yX3_kindOf, Cond.instanceMethod yX3_kindOf, Cond.selects RX3 yX3_kindOf yX3_kindOf, Cond.code yX3_kindOf cX3_kindOf 5 (some .int), Cond.methodLink RX3 80 yX3_isAllowed, Cond.static yX3_isAllowed, Cond.code yX3_isAllowed cX3_isAllowed 3 (some .boolean), Cond.methodLink RX3 71 yX3_isNumber, Cond.static yX3_isNumber, Cond.code yX3_isNumber cX3_isNumber 1 (some .boolean), Cond.methodLink RX3 83 yX3_leads, Cond.instanceMethod yX3_leads, Cond.selects RX3 yX3_leads yX3_leads, Cond.code yX3_leads cX3_leads 5 (some .boolean), Cond.methodLink RX3 68 yX3_isWider, Cond.static yX3_isWider, Cond.code yX3_isWider cX3_isWider 2 (some .boolean), Cond.methodLink RX3 65 yX3_isUp, Cond.instanceMethod yX3_isUp, Cond.selects RX3 yX3_isUp yX3_isUp, Cond.code yX3_isUp cX3_isUp 3 (some .boolean), Cond.methodLink RX3 74 yX3_isBox, Cond.static yX3_isBox, Cond.code yX3_isBox cX3_isBox 1 (some .boolean)]
def wsL_law0_r13 : List Cond := [Cond.methodLink RX3 77 yX3_isDown, Cond.instanceMethod yX3_isDown, Cond.selects RX3 yX3_isDown yX3_isDown, Cond.code yX3_isDown cX3_isDown 5 (some .boolean), Cond.methodLink RL 51 yX2_given, Cond.instanceMethod yX2_given, Cond.selects RX2 yX2_given yX2_given, Cond.code yX2_given cX2_given 6 (some .int), Cond.methodLink RX2 86 yX2_isWhole, Cond.static yX2_isWhole, Cond.code yX2_isWhole cX2_isWhole 1 (some .boolean), Cond.methodLink RX2 89 yX2_areBitsOf, Cond.static yX2_areBitsOf, Cond.code yX2_areBitsOf cX2_areBitsOf 3 (some .boolean), Cond.fieldLink RX2 162 "ConversionTables" "LEAST_BITS" "[J", Cond.fieldLink RX2 165 "ConversionTables" "GREATEST_BITS" "[J", Cond.methodLink RX2 93 yX2_constantFits, Cond.static yX2_constantFits, Cond.code yX2_constantFits cX2_constantFits 5 (some .boolean), Cond.methodLink RL 55 yX3_given, Cond.instanceMethod yX3_given, Cond.selects RX3 yX3_given yX3_given, Cond.code yX3_given cX3_given 7 (some .int), Cond.methodLink RX3 104 yX3_has]
def wsL_law0_r14 : List Cond := [Cond.static yX3_has, Cond.code yX3_has cX3_has 3 (some .boolean), Cond.constantLong RX3 90 (65535), Cond.constantLong RX3 92 (-128), Cond.constantLong RX3 94 (127), Cond.constantLong RX3 96 (-32768), Cond.constantLong RX3 98 (32767), Cond.constantLong RX3 100 (-2147483648), Cond.constantLong RX3 102 (2147483647), Cond.methodLink RL 56 yX2_targets, Cond.instanceMethod yX2_targets, Cond.selects RX2 yX2_targets yX2_targets, Cond.code yX2_targets cX2_targets 5 (some .int), Cond.methodLink RX2 97 yX1_size, Cond.instanceMethod yX1_size, Cond.selects RX1 yX1_size yX1_size, Cond.code yX1_size cX1_size 1 (some .int), Cond.methodLink RL 59 yX3_targets, Cond.instanceMethod yX3_targets, Cond.selects RX3 yX3_targets yX3_targets, Cond.code yX3_targets cX3_targets 5 (some .int), Cond.methodLink RL 60 yX2_turned, Cond.instanceMethod yX2_turned, Cond.selects RX2 yX2_turned yX2_turned]
def wsL_law0_r15 : List Cond := [Cond.code yX2_turned cX2_turned 5 (some .long), Cond.constantLong RX2 104 (-1), Cond.constantLong RX2 106 (-2), Cond.methodLink RX2 108 yX2_turnedToWhole, Cond.static yX2_turnedToWhole, Cond.code yX2_turnedToWhole cX2_turnedToWhole 6 (some .long), Cond.methodLink RX2 189 yX2_lowestBits, Cond.static yX2_lowestBits, Cond.code yX2_lowestBits cX2_lowestBits 3 (some .long), Cond.methodLink RX2 177 yX2_formatOf, Cond.static yX2_formatOf, Cond.code yX2_formatOf cX2_formatOf 1 (some (.object "ConversionTables$Format")), Cond.fieldLink RX2 168 "ConversionTables$Format" "OF_FLOAT" "LConversionTables$Format;", Cond.fieldLink RX2 174 "ConversionTables$Format" "OF_DOUBLE" "LConversionTables$Format;", Cond.methodLink RX2 193 yX0_toLong, Cond.instanceMethod yX0_toLong, Cond.selects RX0 yX0_toLong yX0_toLong, Cond.initialized RX0, Cond.code yX0_toLong cX0_toLong 9 (some .long), Cond.fieldLink RX0 36 "ConversionTables$Format" "infinity" "J", Cond.constantLong RX0 79 (-9223372036854775808), Cond.constantLong RX0 81 (9223372036854775807), Cond.methodLink RX0 48 yX0_withoutSign, Cond.instanceMethod yX0_withoutSign]
def wsL_law0_r16 : List Cond := [Cond.selects RX0 yX0_withoutSign yX0_withoutSign, Cond.code yX0_withoutSign cX0_withoutSign 3 (some .long), Cond.fieldLink RX0 43 "ConversionTables$Format" "sign" "J", Cond.constantLong RX0 46 (-1), Cond.methodLink RX0 69 yX0_significand, Cond.instanceMethod yX0_significand, Cond.selects RX0 yX0_significand yX0_significand, Cond.code yX0_significand cX0_significand 7 (some .long), Cond.fieldLink RX0 29 "ConversionTables$Format" "precision" "I", Cond.methodLink RX0 52 yX0_exponentField, Cond.instanceMethod yX0_exponentField, Cond.selects RX0 yX0_exponentField yX0_exponentField, Cond.code yX0_exponentField cX0_exponentField 3 (some .long), Cond.methodLink RX0 72 yX0_exponent, Cond.instanceMethod yX0_exponent, Cond.selects RX0 yX0_exponent yX0_exponent, Cond.code yX0_exponent cX0_exponent 3 (some .int), Cond.fieldLink RX0 33 "ConversionTables$Format" "lowestExponent" "I", Cond.methodLink RX0 55 Lib.MathLoose.max_long.x, Cond.static Lib.MathLoose.max_long.x, Cond.initialized "java/lang/Math", Cond.code Lib.MathLoose.max_long.x Lib.MathLoose.max_long.code 4 (some .long), Cond.methodLink RX0 76 yX0_widthOf, Cond.static yX0_widthOf]
def wsL_law0_r17 : List Cond := [Cond.code yX0_widthOf cX0_widthOf 2 (some .int), Cond.methodLink RX0 86 yJ13_numberOfLeadingZeros_95d88, Cond.static yJ13_numberOfLeadingZeros_95d88, Cond.code yJ13_numberOfLeadingZeros_95d88 cJ13_numberOfLeadingZeros_95d88 3 (some .int), Cond.methodLink RJ13 308 yJ6_numberOfLeadingZeros_0f7a4, Cond.static yJ6_numberOfLeadingZeros_0f7a4, Cond.initialized RJ6, Cond.code yJ6_numberOfLeadingZeros_0f7a4 cJ6_numberOfLeadingZeros_0f7a4 2 (some .int), Cond.constant RJ6 264 (65536), Cond.methodLink RX0 83 yX0_shifted, Cond.static yX0_shifted, Cond.code yX0_shifted cX0_shifted 3 (some .long), Cond.methodLink RX2 196 yX2_nearestInt, Cond.static yX2_nearestInt, Cond.code yX2_nearestInt cX2_nearestInt 2 (some .long), Cond.methodLink RX2 199 Lib.MathLoose.min_long.x, Cond.static Lib.MathLoose.min_long.x, Cond.code Lib.MathLoose.min_long.x Lib.MathLoose.min_long.code 4 (some .long), Cond.methodLink RX2 203 Lib.MathLoose.max_long.x, Cond.methodLink RX2 112 yX2_turnedToFloating, Cond.static yX2_turnedToFloating, Cond.code yX2_turnedToFloating cX2_turnedToFloating 4 (some .long), Cond.methodLink RX2 181 yX0_fromLong, Cond.instanceMethod yX0_fromLong]
def wsL_law0_r18 : List Cond := [Cond.selects RX0 yX0_fromLong yX0_fromLong, Cond.code yX0_fromLong cX0_fromLong 4 (some .long), Cond.methodLink RX0 61 yX0_nearest, Cond.instanceMethod yX0_nearest, Cond.selects RX0 yX0_nearest yX0_nearest, Cond.code yX0_nearest cX0_nearest 9 (some .long), Cond.methodLink RX0 91 Lib.Math.max.name, Cond.static Lib.Math.max.name, Cond.code Lib.Math.max.name Lib.Math.max.code 2 (some .int), Cond.methodLink RX0 97 Lib.MathLoose.min_long.x, Cond.methodLink RX0 94 yX0_rounded, Cond.static yX0_rounded, Cond.code yX0_rounded cX0_rounded 10 (some .long), Cond.methodLink RX0 65 yX0_withSign, Cond.instanceMethod yX0_withSign, Cond.selects RX0 yX0_withSign yX0_withSign, Cond.code yX0_withSign cX0_withSign 4 (some .long), Cond.methodLink RX2 185 yX0_fromFormat, Cond.instanceMethod yX0_fromFormat, Cond.selects RX0 yX0_fromFormat yX0_fromFormat, Cond.code yX0_fromFormat cX0_fromFormat 7 (some .long), Cond.fieldLink RX0 40 "ConversionTables$Format" "nan" "J", Cond.methodLink RL 64 yX3_turned, Cond.instanceMethod yX3_turned]
def wsL_law0_r19 : List Cond := [Cond.selects RX3 yX3_turned yX3_turned, Cond.code yX3_turned cX3_turned 7 (some .long), Cond.constantLong RX3 128 (-1), Cond.constantLong RX3 133 (-2), Cond.constantLong RX3 118 (-9223372036854775808), Cond.constantLong RX3 112 (9223372036854775807), Cond.methodLink RX3 130 yX3_isBits, Cond.static yX3_isBits, Cond.code yX3_isBits cX3_isBits 3 (some .boolean), Cond.methodLink RX3 135 yX3_one, Cond.static yX3_one, Cond.code yX3_one cX3_one 3 (some .long), Cond.constantLong RX3 108 (2139095040), Cond.constantLong RX3 110 (2143289344), Cond.constantLong RX3 114 (9218868437227405312), Cond.constantLong RX3 116 (9221120237041090560), Cond.methodLink RX3 139 yX3_real, Cond.static yX3_real, Cond.code yX3_real cX3_real 14 (some .long), Cond.methodLink RX3 143 yX3_cutTo, Cond.static yX3_cutTo, Cond.code yX3_cutTo cX3_cutTo 3 (some .long), Cond.methodLink RX3 146 yX3_wide, Cond.static yX3_wide]
def wsL_law0_r20 : List Cond := [Cond.code yX3_wide cX3_wide 8 (some .long), Cond.constantLong RX3 120 (8388607), Cond.constantLong RX3 122 (8388608), Cond.methodLink RX3 150 yX3_narrow, Cond.static yX3_narrow, Cond.code yX3_narrow cX3_narrow 15 (some .long), Cond.constantLong RX3 124 (4503599627370495), Cond.constantLong RX3 126 (4503599627370496), Cond.methodLink RX3 153 yX3_whole, Cond.static yX3_whole, Cond.code yX3_whole cX3_whole 13 (some .long), Cond.methodLink RL 65 yX2_promoted, Cond.instanceMethod yX2_promoted, Cond.selects RX2 yX2_promoted yX2_promoted, Cond.code yX2_promoted cX2_promoted 3 (some .int), Cond.methodLink RX2 118 Lib.Math.max.name, Cond.methodLink RL 68 yX3_promoted, Cond.instanceMethod yX3_promoted, Cond.selects RX3 yX3_promoted yX3_promoted, Cond.code yX3_promoted cX3_promoted 3 (some .int), Cond.methodLink RX3 161 yX3_numberOf, Cond.static yX3_numberOf, Cond.code yX3_numberOf cX3_numberOf 2 (some .int), Cond.methodLink RX3 157 yX3_promotedOf]
def wsL_law0_r21 : List Cond := [Cond.static yX3_promotedOf, Cond.code yX3_promotedOf cX3_promotedOf 1 (some .int), Cond.methodLink RL 69 yX2_both, Cond.instanceMethod yX2_both, Cond.selects RX2 yX2_both yX2_both, Cond.code yX2_both cX2_both 5 (some .int), Cond.methodLink RX2 123 yX2_promotedOfTwo, Cond.static yX2_promotedOfTwo, Cond.code yX2_promotedOfTwo cX2_promotedOfTwo 2 (some .int), Cond.methodLink RL 72 yX3_both, Cond.instanceMethod yX3_both, Cond.selects RX3 yX3_both yX3_both, Cond.code yX3_both cX3_both 5 (some .int), Cond.methodLink RX3 164 yX3_bothOf, Cond.static yX3_bothOf, Cond.code yX3_bothOf cX3_bothOf 4 (some .int), Cond.methodLink RL 73 yX2_conditional, Cond.instanceMethod yX2_conditional, Cond.selects RX2 yX2_conditional yX2_conditional, Cond.code yX2_conditional cX2_conditional 5 (some .int), Cond.methodLink RX2 126 yX2_isByteAndShort, Cond.static yX2_isByteAndShort, Cond.code yX2_isByteAndShort cX2_isByteAndShort 2 (some .boolean), Cond.methodLink RX2 132 yX2_conditionalOfReferences]
def wsL_law0_r22 : List Cond := [Cond.instanceMethod yX2_conditionalOfReferences, Cond.selects RX2 yX2_conditionalOfReferences yX2_conditionalOfReferences, Cond.code yX2_conditionalOfReferences cX2_conditionalOfReferences 3 (some .int), Cond.methodLink RL 76 yX3_conditional, Cond.instanceMethod yX3_conditional, Cond.selects RX3 yX3_conditional yX3_conditional, Cond.code yX3_conditional cX3_conditional 7 (some .int), Cond.methodLink RL 77 yX2_box, Cond.instanceMethod yX2_box, Cond.selects RX2 yX2_box yX2_box, Cond.code yX2_box cX2_box 4 (some .int), Cond.methodLink RX2 205 yX2_isFullOfObjects, Cond.instanceMethod yX2_isFullOfObjects, Cond.selects RX2 yX2_isFullOfObjects yX2_isFullOfObjects, Cond.code yX2_isFullOfObjects cX2_isFullOfObjects 1 (some .boolean), Cond.methodLink RX2 208 yX2_withOneNaN, Cond.static yX2_withOneNaN, Cond.code yX2_withOneNaN cX2_withOneNaN 4 (some .long), Cond.methodLink RX2 212 yX2_addObject, Cond.instanceMethod yX2_addObject, Cond.selects RX2 yX2_addObject yX2_addObject, Cond.code yX2_addObject cX2_addObject 5 (some .int), Cond.methodLink RL 81 yX3_box, Cond.instanceMethod yX3_box]
def wsL_law0_r23 : List Cond := [Cond.selects RX3 yX3_box yX3_box, Cond.code yX3_box cX3_box 4 (some .int), Cond.fieldLink RX3 168 "ConversionTablesModel" "objects" "I", Cond.methodLink RX3 171 yX3_keep, Cond.instanceMethod yX3_keep, Cond.selects RX3 yX3_keep yX3_keep, Cond.code yX3_keep cX3_keep 4 (some .int), Cond.methodLink RL 82 yX2_make, Cond.instanceMethod yX2_make, Cond.selects RX2 yX2_make yX2_make, Cond.code yX2_make cX2_make 2 (some .int), Cond.methodLink RX2 216 yX2_mayBeMade, Cond.instanceMethod yX2_mayBeMade, Cond.selects RX2 yX2_mayBeMade yX2_mayBeMade, Cond.code yX2_mayBeMade cX2_mayBeMade 2 (some .boolean), Cond.methodLink RL 85 yX3_make, Cond.instanceMethod yX3_make, Cond.selects RX3 yX3_make yX3_make, Cond.code yX3_make cX3_make 3 (some .int), Cond.methodLink RL 86 yX2_typeOf, Cond.instanceMethod yX2_typeOf, Cond.selects RX2 yX2_typeOf yX2_typeOf, Cond.code yX2_typeOf cX2_typeOf 2 (some .int), Cond.methodLink RX2 219 yX2_isObject]
def wsL_law0_r24 : List Cond := [Cond.instanceMethod yX2_isObject, Cond.selects RX2 yX2_isObject yX2_isObject, Cond.code yX2_isObject cX2_isObject 2 (some .boolean), Cond.methodLink RL 89 yX3_typeOf, Cond.instanceMethod yX3_typeOf, Cond.selects RX3 yX3_typeOf yX3_typeOf, Cond.code yX3_typeOf cX3_typeOf 2 (some .int), Cond.methodLink RX3 175 yX3_isObject, Cond.instanceMethod yX3_isObject, Cond.selects RX3 yX3_isObject yX3_isObject, Cond.code yX3_isObject cX3_isObject 2 (some .boolean), Cond.methodLink RL 90 yL_unboxed, Cond.static yL_unboxed, Cond.initialized RL, Cond.codeWith yL_unboxed cL_unboxed 5 (some .int) [(0, 9, 12, 13), (0, 9, 16, 15)], Cond.classLink RL 13 "java/lang/ClassCastException", Cond.classLink RL 15 "java/lang/NullPointerException", Cond.methodLink RL 7 yX2_unboxed, Cond.instanceMethod yX2_unboxed, Cond.selects RX2 yX2_unboxed yX2_unboxed, Cond.code yX2_unboxed cX2_unboxed 3 (some .long), Cond.classLink RX2 222 RJx5d777, Cond.instantiable RJx5d777 8, Cond.initialized RJx5d777]
def wsL_law0_r25 : List Cond := [Cond.classLink RX2 225 RJx3273f, Cond.instantiable RJx3273f 6, Cond.initialized RJx3273f, Cond.methodLink RL 95 yX3_unboxed, Cond.instanceMethod yX3_unboxed, Cond.selects RX3 yX3_unboxed yX3_unboxed, Cond.code yX3_unboxed cX3_unboxed 3 (some .long), Cond.methodLink RL 96 yX3_thrown, Cond.instanceMethod yX3_thrown, Cond.selects RX3 yX3_thrown yX3_thrown, Cond.code yX3_thrown cX3_thrown 1 (some .int), Cond.methodLink RL 100 yX2_cast, Cond.instanceMethod yX2_cast, Cond.selects RX2 yX2_cast yX2_cast, Cond.code yX2_cast cX2_cast 7 (some .int), Cond.methodLink RL 103 yX3_cast, Cond.instanceMethod yX3_cast, Cond.selects RX3 yX3_cast yX3_cast, Cond.code yX3_cast cX3_cast 7 (some .int), Cond.methodLink RL 104 yX2_count, Cond.instanceMethod yX2_count, Cond.selects RX2 yX2_count yX2_count, Cond.code yX2_count cX2_count 2 (some .int), Cond.methodLink RL 107 yX3_count]
def wsL_law0_r26 : List Cond := [Cond.instanceMethod yX3_count, Cond.selects RX3 yX3_count yX3_count, Cond.code yX3_count cX3_count 2 (some .int)]
def wsL_law0 : List Cond := (wsL_law0_r1 ++ (wsL_law0_r2 ++ (wsL_law0_r3 ++ (wsL_law0_r4 ++ (wsL_law0_r5 ++ (wsL_law0_r6 ++ (wsL_law0_r7 ++ (wsL_law0_r8 ++ (wsL_law0_r9 ++ (wsL_law0_r10 ++ (wsL_law0_r11 ++ (wsL_law0_r12 ++ (wsL_law0_r13 ++ (wsL_law0_r14 ++ (wsL_law0_r15 ++ (wsL_law0_r16 ++ (wsL_law0_r17 ++ (wsL_law0_r18 ++ (wsL_law0_r19 ++ (wsL_law0_r20 ++ (wsL_law0_r21 ++ (wsL_law0_r22 ++ (wsL_law0_r23 ++ (wsL_law0_r24 ++ (wsL_law0_r25 ++ wsL_law0_r26))))))))))))))))))))))))) ++ wsX20 ++ wsX30 ++ wsX10 ++ wsJx5d7770 ++ wsJx3273f0 ++ ([] : List Cond)
def wsL_law : List Cond := wsL_law0 ++ (vx_atN 8).filter goodWord
end
section
theorem dX0_withoutSign_0 : decode cX0_withoutSign 0 = .ok (.lload_n 1, 1) := by decide +kernel
theorem dX0_withoutSign_1 : decode cX0_withoutSign 1 = .ok (.aload_n 0, 1) := by decide +kernel
theorem dX0_withoutSign_2 : decode cX0_withoutSign 2 = .ok (.getfield 43, 3) := by decide +kernel
theorem dX0_withoutSign_5 : decode cX0_withoutSign 5 = .ok (.ldc2_w 46, 3) := by decide +kernel
theorem dX0_withoutSign_8 : decode cX0_withoutSign 8 = .ok (.lxor, 1) := by decide +kernel
theorem dX0_withoutSign_9 : decode cX0_withoutSign 9 = .ok (.land, 1) := by decide +kernel
theorem dX0_withoutSign_10 : decode cX0_withoutSign 10 = .ok (.lreturn, 1) := by decide +kernel
theorem dX0_withSign_0 : decode cX0_withSign 0 = .ok (.iload_n 1, 1) := by decide +kernel
theorem dX0_withSign_1 : decode cX0_withSign 1 = .ok (.ifCond .eq 12, 3) := by decide +kernel
theorem dX0_withSign_4 : decode cX0_withSign 4 = .ok (.lload_n 2, 1) := by decide +kernel
theorem dX0_withSign_5 : decode cX0_withSign 5 = .ok (.aload_n 0, 1) := by decide +kernel
theorem dX0_withSign_6 : decode cX0_withSign 6 = .ok (.getfield 43, 3) := by decide +kernel
theorem dX0_withSign_9 : decode cX0_withSign 9 = .ok (.lor, 1) := by decide +kernel
theorem dX0_withSign_10 : decode cX0_withSign 10 = .ok (.goto 4, 3) := by decide +kernel
theorem dX0_withSign_13 : decode cX0_withSign 13 = .ok (.lload_n 2, 1) := by decide +kernel
theorem dX0_withSign_14 : decode cX0_withSign 14 = .ok (.lreturn, 1) := by decide +kernel
set_option maxRecDepth 20000 in
theorem ggX0_exponentField_X0_withoutSign : GoodIn wsX0_exponentField wsX0_withoutSign := goodIn_r _ [6, 7, 8] (by decide +kernel) (by decide +kernel)
set_option maxRecDepth 20000 in
theorem gX0_exponentField_X0_withoutSign : GoodIn wsX0_exponentField (wsV RX0 48 RX0 yX0_withoutSign wsX0_withoutSign) := goodIn_app (goodIn_of _ (by decide +kernel)) ggX0_exponentField_X0_withoutSign
theorem dX0_exponentField_0 : decode cX0_exponentField 0 = .ok (.aload_n 0, 1) := by decide +kernel
theorem dX0_exponentField_1 : decode cX0_exponentField 1 = .ok (.lload_n 1, 1) := by decide +kernel
theorem dX0_exponentField_2 : decode cX0_exponentField 2 = .ok (.invokevirtual 48, 3) := by decide +kernel
theorem dX0_exponentField_5 : decode cX0_exponentField 5 = .ok (.aload_n 0, 1) := by decide +kernel
theorem dX0_exponentField_6 : decode cX0_exponentField 6 = .ok (.getfield 29, 3) := by decide +kernel
theorem dX0_exponentField_9 : decode cX0_exponentField 9 = .ok (.iconst 1, 1) := by decide +kernel
theorem dX0_exponentField_10 : decode cX0_exponentField 10 = .ok (.isub, 1) := by decide +kernel
theorem dX0_exponentField_11 : decode cX0_exponentField 11 = .ok (.lushr, 1) := by decide +kernel
theorem dX0_exponentField_12 : decode cX0_exponentField 12 = .ok (.lreturn, 1) := by decide +kernel
set_option maxRecDepth 20000 in
theorem ggX0_significand_X0_withoutSign : GoodIn wsX0_significand wsX0_withoutSign := goodIn_r _ [6, 7, 8] (by decide +kernel) (by decide +kernel)
set_option maxRecDepth 20000 in
theorem gX0_significand_X0_withoutSign : GoodIn wsX0_significand (wsV RX0 48 RX0 yX0_withoutSign wsX0_withoutSign) := goodIn_app (goodIn_of _ (by decide +kernel)) ggX0_significand_X0_withoutSign
set_option maxRecDepth 20000 in
theorem ggX0_significand_X0_exponentField : GoodIn wsX0_significand wsX0_exponentField := goodIn_ca (goodIn_r _ [12, 1, 2, 3, 4, 5, 6, 7, 8] (by decide +kernel) (by decide +kernel)) (goodIn_sub (fun _ h => List.mem_cons_of_mem _ (List.mem_append_right _ h)) (by decide +kernel))
set_option maxRecDepth 20000 in
theorem gX0_significand_X0_exponentField : GoodIn wsX0_significand (wsV RX0 52 RX0 yX0_exponentField wsX0_exponentField) := goodIn_app (goodIn_of _ (by decide +kernel)) ggX0_significand_X0_exponentField
theorem dX0_significand_0 : decode cX0_significand 0 = .ok (.lconst 1, 1) := by decide +kernel
theorem dX0_significand_1 : decode cX0_significand 1 = .ok (.aload_n 0, 1) := by decide +kernel
theorem dX0_significand_2 : decode cX0_significand 2 = .ok (.getfield 29, 3) := by decide +kernel
theorem dX0_significand_5 : decode cX0_significand 5 = .ok (.iconst 1, 1) := by decide +kernel
theorem dX0_significand_6 : decode cX0_significand 6 = .ok (.isub, 1) := by decide +kernel
theorem dX0_significand_7 : decode cX0_significand 7 = .ok (.lshl, 1) := by decide +kernel
theorem dX0_significand_8 : decode cX0_significand 8 = .ok (.lstore_n 3, 1) := by decide +kernel
theorem dX0_significand_9 : decode cX0_significand 9 = .ok (.aload_n 0, 1) := by decide +kernel
theorem dX0_significand_10 : decode cX0_significand 10 = .ok (.lload_n 1, 1) := by decide +kernel
theorem dX0_significand_11 : decode cX0_significand 11 = .ok (.invokevirtual 48, 3) := by decide +kernel
theorem dX0_significand_14 : decode cX0_significand 14 = .ok (.lload_n 3, 1) := by decide +kernel
theorem dX0_significand_15 : decode cX0_significand 15 = .ok (.lconst 1, 1) := by decide +kernel
theorem dX0_significand_16 : decode cX0_significand 16 = .ok (.lsub, 1) := by decide +kernel
theorem dX0_significand_17 : decode cX0_significand 17 = .ok (.land, 1) := by decide +kernel
theorem dX0_significand_18 : decode cX0_significand 18 = .ok (.lstore 5, 2) := by decide +kernel
theorem dX0_significand_20 : decode cX0_significand 20 = .ok (.aload_n 0, 1) := by decide +kernel
theorem dX0_significand_21 : decode cX0_significand 21 = .ok (.lload_n 1, 1) := by decide +kernel
theorem dX0_significand_22 : decode cX0_significand 22 = .ok (.invokevirtual 52, 3) := by decide +kernel
theorem dX0_significand_25 : decode cX0_significand 25 = .ok (.lconst 0, 1) := by decide +kernel
theorem dX0_significand_26 : decode cX0_significand 26 = .ok (.lcmp, 1) := by decide +kernel
theorem dX0_significand_27 : decode cX0_significand 27 = .ok (.ifCond .ne 8, 3) := by decide +kernel
theorem dX0_significand_30 : decode cX0_significand 30 = .ok (.lload 5, 2) := by decide +kernel
theorem dX0_significand_32 : decode cX0_significand 32 = .ok (.goto 7, 3) := by decide +kernel
theorem dX0_significand_35 : decode cX0_significand 35 = .ok (.lload 5, 2) := by decide +kernel
theorem dX0_significand_37 : decode cX0_significand 37 = .ok (.lload_n 3, 1) := by decide +kernel
theorem dX0_significand_38 : decode cX0_significand 38 = .ok (.lor, 1) := by decide +kernel
theorem dX0_significand_39 : decode cX0_significand 39 = .ok (.lreturn, 1) := by decide +kernel
set_option maxRecDepth 20000 in
theorem ggX0_exponent_X0_exponentField : GoodIn wsX0_exponent wsX0_exponentField := goodIn_ca (goodIn_r _ [10, 11, 12, 13, 14, 9, 15, 16, 17] (by decide +kernel) (by decide +kernel)) (goodIn_sub (fun _ h => List.mem_cons_of_mem _ (List.mem_append_right _ h)) (by decide +kernel))
set_option maxRecDepth 20000 in
theorem gX0_exponent_X0_exponentField : GoodIn wsX0_exponent (wsV RX0 52 RX0 yX0_exponentField wsX0_exponentField) := goodIn_app (goodIn_of _ (by decide +kernel)) ggX0_exponent_X0_exponentField
theorem dX0_exponent_0 : decode cX0_exponent 0 = .ok (.aload_n 0, 1) := by decide +kernel
theorem dX0_exponent_1 : decode cX0_exponent 1 = .ok (.getfield 33, 3) := by decide +kernel
theorem dX0_exponent_4 : decode cX0_exponent 4 = .ok (.aload_n 0, 1) := by decide +kernel
theorem dX0_exponent_5 : decode cX0_exponent 5 = .ok (.lload_n 1, 1) := by decide +kernel
theorem dX0_exponent_6 : decode cX0_exponent 6 = .ok (.invokevirtual 52, 3) := by decide +kernel
theorem dX0_exponent_9 : decode cX0_exponent 9 = .ok (.lconst 1, 1) := by decide +kernel
theorem dX0_exponent_10 : decode cX0_exponent 10 = .ok (.invokestatic 55, 3) := by decide +kernel
theorem dX0_exponent_13 : decode cX0_exponent 13 = .ok (.l2i, 1) := by decide +kernel
theorem dX0_exponent_14 : decode cX0_exponent 14 = .ok (.iadd, 1) := by decide +kernel
theorem dX0_exponent_15 : decode cX0_exponent 15 = .ok (.iconst 1, 1) := by decide +kernel
theorem dX0_exponent_16 : decode cX0_exponent 16 = .ok (.isub, 1) := by decide +kernel
theorem dX0_exponent_17 : decode cX0_exponent 17 = .ok (.ireturn, 1) := by decide +kernel
set_option maxRecDepth 20000 in
theorem ggX0_fromLong_X0_nearest : GoodIn wsX0_fromLong wsX0_nearest := goodIn_r _ [5, 6, 7, 8, 9, 10, 11, 12, 13, 14, 15, 16, 17, 4, 18, 19, 20, 21, 22, 23, 24, 25, 26, 27, 28, 29, 30] (by decide +kernel) (by decide +kernel)
set_option maxRecDepth 20000 in
theorem gX0_fromLong_X0_nearest : GoodIn wsX0_fromLong (wsV RX0 61 RX0 yX0_nearest wsX0_nearest) := goodIn_app (goodIn_of _ (by decide +kernel)) ggX0_fromLong_X0_nearest
set_option maxRecDepth 20000 in
theorem ggX0_fromLong_X0_withSign : GoodIn wsX0_fromLong wsX0_withSign := goodIn_r _ [34, 35] (by decide +kernel) (by decide +kernel)
set_option maxRecDepth 20000 in
theorem gX0_fromLong_X0_withSign : GoodIn wsX0_fromLong (wsV RX0 65 RX0 yX0_withSign wsX0_withSign) := goodIn_app (goodIn_of _ (by decide +kernel)) ggX0_fromLong_X0_withSign
theorem dX0_fromLong_0 : decode cX0_fromLong 0 = .ok (.lload_n 1, 1) := by decide +kernel
theorem dX0_fromLong_1 : decode cX0_fromLong 1 = .ok (.lconst 0, 1) := by decide +kernel
theorem dX0_fromLong_2 : decode cX0_fromLong 2 = .ok (.lcmp, 1) := by decide +kernel
theorem dX0_fromLong_3 : decode cX0_fromLong 3 = .ok (.ifCond .ge 7, 3) := by decide +kernel
theorem dX0_fromLong_6 : decode cX0_fromLong 6 = .ok (.iconst 1, 1) := by decide +kernel
theorem dX0_fromLong_7 : decode cX0_fromLong 7 = .ok (.goto 4, 3) := by decide +kernel
theorem dX0_fromLong_10 : decode cX0_fromLong 10 = .ok (.iconst 0, 1) := by decide +kernel
theorem dX0_fromLong_11 : decode cX0_fromLong 11 = .ok (.istore_n 3, 1) := by decide +kernel
theorem dX0_fromLong_12 : decode cX0_fromLong 12 = .ok (.aload_n 0, 1) := by decide +kernel
theorem dX0_fromLong_13 : decode cX0_fromLong 13 = .ok (.iload_n 3, 1) := by decide +kernel
theorem dX0_fromLong_14 : decode cX0_fromLong 14 = .ok (.aload_n 0, 1) := by decide +kernel
theorem dX0_fromLong_15 : decode cX0_fromLong 15 = .ok (.iload_n 3, 1) := by decide +kernel
theorem dX0_fromLong_16 : decode cX0_fromLong 16 = .ok (.ifCond .eq 8, 3) := by decide +kernel
theorem dX0_fromLong_19 : decode cX0_fromLong 19 = .ok (.lload_n 1, 1) := by decide +kernel
theorem dX0_fromLong_20 : decode cX0_fromLong 20 = .ok (.lneg, 1) := by decide +kernel
theorem dX0_fromLong_21 : decode cX0_fromLong 21 = .ok (.goto 4, 3) := by decide +kernel
theorem dX0_fromLong_24 : decode cX0_fromLong 24 = .ok (.lload_n 1, 1) := by decide +kernel
theorem dX0_fromLong_25 : decode cX0_fromLong 25 = .ok (.iconst 0, 1) := by decide +kernel
theorem dX0_fromLong_26 : decode cX0_fromLong 26 = .ok (.invokevirtual 61, 3) := by decide +kernel
theorem dX0_fromLong_29 : decode cX0_fromLong 29 = .ok (.invokevirtual 65, 3) := by decide +kernel
theorem dX0_fromLong_32 : decode cX0_fromLong 32 = .ok (.lreturn, 1) := by decide +kernel
set_option maxRecDepth 20000 in
theorem ggX0_fromFormat_X0_withoutSign : GoodIn wsX0_fromFormat wsX0_withoutSign := goodIn_r _ [7, 8, 9] (by decide +kernel) (by decide +kernel)
set_option maxRecDepth 20000 in
theorem gX0_fromFormat_X0_withoutSign : GoodIn wsX0_fromFormat (wsV RX0 48 RX0 yX0_withoutSign wsX0_withoutSign) := goodIn_app (goodIn_of _ (by decide +kernel)) ggX0_fromFormat_X0_withoutSign
set_option maxRecDepth 20000 in
theorem ggX0_fromFormat_X0_withSign : GoodIn wsX0_fromFormat wsX0_withSign := goodIn_r _ [13, 8] (by decide +kernel) (by decide +kernel)
set_option maxRecDepth 20000 in
theorem gX0_fromFormat_X0_withSign : GoodIn wsX0_fromFormat (wsV RX0 65 RX0 yX0_withSign wsX0_withSign) := goodIn_app (goodIn_of _ (by decide +kernel)) ggX0_fromFormat_X0_withSign
set_option maxRecDepth 20000 in
theorem ggX0_fromFormat_X0_significand : GoodIn wsX0_fromFormat wsX0_significand := goodIn_ca (goodIn_r _ [17, 18, 3, 4, 5, 6, 7, 8, 9, 19, 20, 21, 22] (by decide +kernel) (by decide +kernel)) (goodIn_sub (fun _ h => List.mem_cons_of_mem _ (List.mem_append_right _ h)) (by decide +kernel))
set_option maxRecDepth 20000 in
theorem gX0_fromFormat_X0_significand : GoodIn wsX0_fromFormat (wsV RX0 69 RX0 yX0_significand wsX0_significand) := goodIn_app (goodIn_of _ (by decide +kernel)) ggX0_fromFormat_X0_significand
set_option maxRecDepth 20000 in
theorem ggX0_fromFormat_X0_exponent : GoodIn wsX0_fromFormat wsX0_exponent := goodIn_ca (goodIn_r _ [26, 27, 28, 29, 30, 31, 19, 20, 21, 6, 22, 18, 3, 4, 5, 7, 8, 9] (by decide +kernel) (by decide +kernel)) (goodIn_sub (fun _ h => List.mem_cons_of_mem _ (List.mem_append_right _ h)) (by decide +kernel))
set_option maxRecDepth 20000 in
theorem gX0_fromFormat_X0_exponent : GoodIn wsX0_fromFormat (wsV RX0 72 RX0 yX0_exponent wsX0_exponent) := goodIn_app (goodIn_of _ (by decide +kernel)) ggX0_fromFormat_X0_exponent
set_option maxRecDepth 20000 in
theorem ggX0_fromFormat_X0_nearest : GoodIn wsX0_fromFormat wsX0_nearest := goodIn_r _ [35, 18, 27, 36, 37, 30, 38, 1, 39, 40, 41, 42, 43, 6, 44, 45, 46, 47, 48, 49, 50, 51, 52, 53, 54, 55, 56] (by decide +kernel) (by decide +kernel)
set_option maxRecDepth 20000 in
theorem gX0_fromFormat_X0_nearest : GoodIn wsX0_fromFormat (wsV RX0 61 RX0 yX0_nearest wsX0_nearest) := goodIn_app (goodIn_of _ (by decide +kernel)) ggX0_fromFormat_X0_nearest
theorem dX0_fromFormat_0 : decode cX0_fromFormat 0 = .ok (.aload_n 1, 1) := by decide +kernel
theorem dX0_fromFormat_1 : decode cX0_fromFormat 1 = .ok (.lload_n 2, 1) := by decide +kernel
theorem dX0_fromFormat_2 : decode cX0_fromFormat 2 = .ok (.invokevirtual 48, 3) := by decide +kernel
theorem dX0_fromFormat_5 : decode cX0_fromFormat 5 = .ok (.lstore 4, 2) := by decide +kernel
theorem dX0_fromFormat_7 : decode cX0_fromFormat 7 = .ok (.lload 4, 2) := by decide +kernel
theorem dX0_fromFormat_9 : decode cX0_fromFormat 9 = .ok (.aload_n 1, 1) := by decide +kernel
theorem dX0_fromFormat_10 : decode cX0_fromFormat 10 = .ok (.getfield 36, 3) := by decide +kernel
theorem dX0_fromFormat_13 : decode cX0_fromFormat 13 = .ok (.lcmp, 1) := by decide +kernel
theorem dX0_fromFormat_14 : decode cX0_fromFormat 14 = .ok (.ifCond .le 8, 3) := by decide +kernel
theorem dX0_fromFormat_17 : decode cX0_fromFormat 17 = .ok (.aload_n 0, 1) := by decide +kernel
theorem dX0_fromFormat_18 : decode cX0_fromFormat 18 = .ok (.getfield 40, 3) := by decide +kernel
theorem dX0_fromFormat_21 : decode cX0_fromFormat 21 = .ok (.lreturn, 1) := by decide +kernel
theorem dX0_fromFormat_22 : decode cX0_fromFormat 22 = .ok (.lload_n 2, 1) := by decide +kernel
theorem dX0_fromFormat_23 : decode cX0_fromFormat 23 = .ok (.lconst 0, 1) := by decide +kernel
theorem dX0_fromFormat_24 : decode cX0_fromFormat 24 = .ok (.lcmp, 1) := by decide +kernel
theorem dX0_fromFormat_25 : decode cX0_fromFormat 25 = .ok (.ifCond .ge 7, 3) := by decide +kernel
theorem dX0_fromFormat_28 : decode cX0_fromFormat 28 = .ok (.iconst 1, 1) := by decide +kernel
theorem dX0_fromFormat_29 : decode cX0_fromFormat 29 = .ok (.goto 4, 3) := by decide +kernel
theorem dX0_fromFormat_32 : decode cX0_fromFormat 32 = .ok (.iconst 0, 1) := by decide +kernel
theorem dX0_fromFormat_33 : decode cX0_fromFormat 33 = .ok (.istore 6, 2) := by decide +kernel
theorem dX0_fromFormat_35 : decode cX0_fromFormat 35 = .ok (.lload 4, 2) := by decide +kernel
theorem dX0_fromFormat_37 : decode cX0_fromFormat 37 = .ok (.aload_n 1, 1) := by decide +kernel
theorem dX0_fromFormat_38 : decode cX0_fromFormat 38 = .ok (.getfield 36, 3) := by decide +kernel
theorem dX0_fromFormat_41 : decode cX0_fromFormat 41 = .ok (.lcmp, 1) := by decide +kernel
theorem dX0_fromFormat_42 : decode cX0_fromFormat 42 = .ok (.ifCond .ne 14, 3) := by decide +kernel
theorem dX0_fromFormat_45 : decode cX0_fromFormat 45 = .ok (.aload_n 0, 1) := by decide +kernel
theorem dX0_fromFormat_46 : decode cX0_fromFormat 46 = .ok (.iload 6, 2) := by decide +kernel
theorem dX0_fromFormat_48 : decode cX0_fromFormat 48 = .ok (.aload_n 0, 1) := by decide +kernel
theorem dX0_fromFormat_49 : decode cX0_fromFormat 49 = .ok (.getfield 36, 3) := by decide +kernel
theorem dX0_fromFormat_52 : decode cX0_fromFormat 52 = .ok (.invokevirtual 65, 3) := by decide +kernel
theorem dX0_fromFormat_55 : decode cX0_fromFormat 55 = .ok (.lreturn, 1) := by decide +kernel
theorem dX0_fromFormat_56 : decode cX0_fromFormat 56 = .ok (.aload_n 0, 1) := by decide +kernel
theorem dX0_fromFormat_57 : decode cX0_fromFormat 57 = .ok (.iload 6, 2) := by decide +kernel
theorem dX0_fromFormat_59 : decode cX0_fromFormat 59 = .ok (.aload_n 0, 1) := by decide +kernel
theorem dX0_fromFormat_60 : decode cX0_fromFormat 60 = .ok (.aload_n 1, 1) := by decide +kernel
theorem dX0_fromFormat_61 : decode cX0_fromFormat 61 = .ok (.lload_n 2, 1) := by decide +kernel
theorem dX0_fromFormat_62 : decode cX0_fromFormat 62 = .ok (.invokevirtual 69, 3) := by decide +kernel
theorem dX0_fromFormat_65 : decode cX0_fromFormat 65 = .ok (.aload_n 1, 1) := by decide +kernel
theorem dX0_fromFormat_66 : decode cX0_fromFormat 66 = .ok (.lload_n 2, 1) := by decide +kernel
theorem dX0_fromFormat_67 : decode cX0_fromFormat 67 = .ok (.invokevirtual 72, 3) := by decide +kernel
theorem dX0_fromFormat_70 : decode cX0_fromFormat 70 = .ok (.invokevirtual 61, 3) := by decide +kernel
theorem dX0_fromFormat_73 : decode cX0_fromFormat 73 = .ok (.invokevirtual 65, 3) := by decide +kernel
theorem dX0_fromFormat_76 : decode cX0_fromFormat 76 = .ok (.lreturn, 1) := by decide +kernel
set_option maxRecDepth 20000 in
theorem ggX0_toLong_X0_withoutSign : GoodIn wsX0_toLong wsX0_withoutSign := goodIn_r _ [8, 9, 10] (by decide +kernel) (by decide +kernel)
set_option maxRecDepth 20000 in
theorem gX0_toLong_X0_withoutSign : GoodIn wsX0_toLong (wsV RX0 48 RX0 yX0_withoutSign wsX0_withoutSign) := goodIn_app (goodIn_of _ (by decide +kernel)) ggX0_toLong_X0_withoutSign
set_option maxRecDepth 20000 in
theorem ggX0_toLong_X0_significand : GoodIn wsX0_toLong wsX0_significand := goodIn_ca (goodIn_r _ [14, 15, 4, 5, 6, 7, 8, 9, 10, 16, 17, 18, 19] (by decide +kernel) (by decide +kernel)) (goodIn_sub (fun _ h => List.mem_cons_of_mem _ (List.mem_append_right _ h)) (by decide +kernel))
set_option maxRecDepth 20000 in
theorem gX0_toLong_X0_significand : GoodIn wsX0_toLong (wsV RX0 69 RX0 yX0_significand wsX0_significand) := goodIn_app (goodIn_of _ (by decide +kernel)) ggX0_toLong_X0_significand
set_option maxRecDepth 20000 in
theorem ggX0_toLong_X0_exponent : GoodIn wsX0_toLong wsX0_exponent := goodIn_ca (goodIn_r _ [23, 24, 25, 26, 27, 28, 16, 17, 18, 7, 19, 15, 4, 5, 6, 8, 9, 10] (by decide +kernel) (by decide +kernel)) (goodIn_sub (fun _ h => List.mem_cons_of_mem _ (List.mem_append_right _ h)) (by decide +kernel))
set_option maxRecDepth 20000 in
theorem gX0_toLong_X0_exponent : GoodIn wsX0_toLong (wsV RX0 72 RX0 yX0_exponent wsX0_exponent) := goodIn_app (goodIn_of _ (by decide +kernel)) ggX0_toLong_X0_exponent
set_option maxRecDepth 20000 in
theorem ggX0_toLong_X0_widthOf : GoodIn wsX0_toLong wsX0_widthOf := goodIn_r _ [31, 32, 33, 34, 35, 36, 37, 38, 39, 40] (by decide +kernel) (by decide +kernel)
set_option maxRecDepth 20000 in
theorem gX0_toLong_X0_widthOf : GoodIn wsX0_toLong (va_wsS RX0 76 yX0_widthOf wsX0_widthOf) := goodIn_app (goodIn_of _ (by decide +kernel)) ggX0_toLong_X0_widthOf
set_option maxRecDepth 20000 in
theorem ggX0_toLong_X0_shifted : GoodIn wsX0_toLong wsX0_shifted := goodIn_r _ [43] (by decide +kernel) (by decide +kernel)
set_option maxRecDepth 20000 in
theorem gX0_toLong_X0_shifted : GoodIn wsX0_toLong (va_wsS RX0 83 yX0_shifted wsX0_shifted) := goodIn_app (goodIn_of _ (by decide +kernel)) ggX0_toLong_X0_shifted
theorem dX0_toLong_0 : decode cX0_toLong 0 = .ok (.aload_n 0, 1) := by decide +kernel
theorem dX0_toLong_1 : decode cX0_toLong 1 = .ok (.lload_n 1, 1) := by decide +kernel
theorem dX0_toLong_2 : decode cX0_toLong 2 = .ok (.invokevirtual 48, 3) := by decide +kernel
theorem dX0_toLong_5 : decode cX0_toLong 5 = .ok (.aload_n 0, 1) := by decide +kernel
theorem dX0_toLong_6 : decode cX0_toLong 6 = .ok (.getfield 36, 3) := by decide +kernel
theorem dX0_toLong_9 : decode cX0_toLong 9 = .ok (.lcmp, 1) := by decide +kernel
theorem dX0_toLong_10 : decode cX0_toLong 10 = .ok (.ifCond .le 5, 3) := by decide +kernel
theorem dX0_toLong_13 : decode cX0_toLong 13 = .ok (.lconst 0, 1) := by decide +kernel
theorem dX0_toLong_14 : decode cX0_toLong 14 = .ok (.lreturn, 1) := by decide +kernel
theorem dX0_toLong_15 : decode cX0_toLong 15 = .ok (.lload_n 1, 1) := by decide +kernel
theorem dX0_toLong_16 : decode cX0_toLong 16 = .ok (.lconst 0, 1) := by decide +kernel
theorem dX0_toLong_17 : decode cX0_toLong 17 = .ok (.lcmp, 1) := by decide +kernel
theorem dX0_toLong_18 : decode cX0_toLong 18 = .ok (.ifCond .ge 7, 3) := by decide +kernel
theorem dX0_toLong_21 : decode cX0_toLong 21 = .ok (.iconst 1, 1) := by decide +kernel
theorem dX0_toLong_22 : decode cX0_toLong 22 = .ok (.goto 4, 3) := by decide +kernel
theorem dX0_toLong_25 : decode cX0_toLong 25 = .ok (.iconst 0, 1) := by decide +kernel
theorem dX0_toLong_26 : decode cX0_toLong 26 = .ok (.istore_n 3, 1) := by decide +kernel
theorem dX0_toLong_27 : decode cX0_toLong 27 = .ok (.aload_n 0, 1) := by decide +kernel
theorem dX0_toLong_28 : decode cX0_toLong 28 = .ok (.lload_n 1, 1) := by decide +kernel
theorem dX0_toLong_29 : decode cX0_toLong 29 = .ok (.invokevirtual 69, 3) := by decide +kernel
theorem dX0_toLong_32 : decode cX0_toLong 32 = .ok (.lstore 4, 2) := by decide +kernel
theorem dX0_toLong_34 : decode cX0_toLong 34 = .ok (.aload_n 0, 1) := by decide +kernel
theorem dX0_toLong_35 : decode cX0_toLong 35 = .ok (.lload_n 1, 1) := by decide +kernel
theorem dX0_toLong_36 : decode cX0_toLong 36 = .ok (.invokevirtual 72, 3) := by decide +kernel
theorem dX0_toLong_39 : decode cX0_toLong 39 = .ok (.istore 6, 2) := by decide +kernel
theorem dX0_toLong_41 : decode cX0_toLong 41 = .ok (.iload 6, 2) := by decide +kernel
theorem dX0_toLong_43 : decode cX0_toLong 43 = .ok (.lload 4, 2) := by decide +kernel
theorem dX0_toLong_45 : decode cX0_toLong 45 = .ok (.invokestatic 76, 3) := by decide +kernel
theorem dX0_toLong_48 : decode cX0_toLong 48 = .ok (.iadd, 1) := by decide +kernel
theorem dX0_toLong_49 : decode cX0_toLong 49 = .ok (.bipush 63, 2) := by decide +kernel
theorem dX0_toLong_51 : decode cX0_toLong 51 = .ok (.if_icmp .le 17, 3) := by decide +kernel
theorem dX0_toLong_54 : decode cX0_toLong 54 = .ok (.iload_n 3, 1) := by decide +kernel
theorem dX0_toLong_55 : decode cX0_toLong 55 = .ok (.ifCond .eq 9, 3) := by decide +kernel
theorem dX0_toLong_58 : decode cX0_toLong 58 = .ok (.ldc2_w 79, 3) := by decide +kernel
theorem dX0_toLong_61 : decode cX0_toLong 61 = .ok (.goto 6, 3) := by decide +kernel
theorem dX0_toLong_64 : decode cX0_toLong 64 = .ok (.ldc2_w 81, 3) := by decide +kernel
theorem dX0_toLong_67 : decode cX0_toLong 67 = .ok (.lreturn, 1) := by decide +kernel
theorem dX0_toLong_68 : decode cX0_toLong 68 = .ok (.lload 4, 2) := by decide +kernel
theorem dX0_toLong_70 : decode cX0_toLong 70 = .ok (.iload 6, 2) := by decide +kernel
theorem dX0_toLong_72 : decode cX0_toLong 72 = .ok (.invokestatic 83, 3) := by decide +kernel
theorem dX0_toLong_75 : decode cX0_toLong 75 = .ok (.lstore 7, 2) := by decide +kernel
theorem dX0_toLong_77 : decode cX0_toLong 77 = .ok (.iload_n 3, 1) := by decide +kernel
theorem dX0_toLong_78 : decode cX0_toLong 78 = .ok (.ifCond .eq 9, 3) := by decide +kernel
theorem dX0_toLong_81 : decode cX0_toLong 81 = .ok (.lload 7, 2) := by decide +kernel
theorem dX0_toLong_83 : decode cX0_toLong 83 = .ok (.lneg, 1) := by decide +kernel
theorem dX0_toLong_84 : decode cX0_toLong 84 = .ok (.goto 5, 3) := by decide +kernel
theorem dX0_toLong_87 : decode cX0_toLong 87 = .ok (.lload 7, 2) := by decide +kernel
theorem dX0_toLong_89 : decode cX0_toLong 89 = .ok (.lreturn, 1) := by decide +kernel
set_option maxRecDepth 20000 in
theorem ggX0_widthOf_J13_numberOfLeadingZeros_95d88 : GoodIn wsX0_widthOf wsJ13_numberOfLeadingZeros_95d88 := goodIn_r _ [4, 5, 6, 7, 8, 9] (by decide +kernel) (by decide +kernel)
set_option maxRecDepth 20000 in
theorem gX0_widthOf_J13_numberOfLeadingZeros_95d88 : GoodIn wsX0_widthOf (va_wsS RX0 86 yJ13_numberOfLeadingZeros_95d88 wsJ13_numberOfLeadingZeros_95d88) := goodIn_app (goodIn_of _ (by decide +kernel)) ggX0_widthOf_J13_numberOfLeadingZeros_95d88
theorem dX0_widthOf_0 : decode cX0_widthOf 0 = .ok (.bipush 64, 2) := by decide +kernel
theorem dX0_widthOf_2 : decode cX0_widthOf 2 = .ok (.lload_n 0, 1) := by decide +kernel
theorem dX0_widthOf_3 : decode cX0_widthOf 3 = .ok (.invokestatic 86, 3) := by decide +kernel
theorem dX0_widthOf_6 : decode cX0_widthOf 6 = .ok (.isub, 1) := by decide +kernel
theorem dX0_widthOf_7 : decode cX0_widthOf 7 = .ok (.ireturn, 1) := by decide +kernel
theorem dX0_shifted_0 : decode cX0_shifted 0 = .ok (.iload_n 2, 1) := by decide +kernel
theorem dX0_shifted_1 : decode cX0_shifted 1 = .ok (.ifCond .lt 7, 3) := by decide +kernel
theorem dX0_shifted_4 : decode cX0_shifted 4 = .ok (.lload_n 0, 1) := by decide +kernel
theorem dX0_shifted_5 : decode cX0_shifted 5 = .ok (.iload_n 2, 1) := by decide +kernel
theorem dX0_shifted_6 : decode cX0_shifted 6 = .ok (.lshl, 1) := by decide +kernel
theorem dX0_shifted_7 : decode cX0_shifted 7 = .ok (.lreturn, 1) := by decide +kernel
theorem dX0_shifted_8 : decode cX0_shifted 8 = .ok (.iload_n 2, 1) := by decide +kernel
theorem dX0_shifted_9 : decode cX0_shifted 9 = .ok (.bipush (-63), 2) := by decide +kernel
theorem dX0_shifted_11 : decode cX0_shifted 11 = .ok (.if_icmp .ge 7, 3) := by decide +kernel
theorem dX0_shifted_14 : decode cX0_shifted 14 = .ok (.lconst 0, 1) := by decide +kernel
theorem dX0_shifted_15 : decode cX0_shifted 15 = .ok (.goto 7, 3) := by decide +kernel
theorem dX0_shifted_18 : decode cX0_shifted 18 = .ok (.lload_n 0, 1) := by decide +kernel
theorem dX0_shifted_19 : decode cX0_shifted 19 = .ok (.iload_n 2, 1) := by decide +kernel
theorem dX0_shifted_20 : decode cX0_shifted 20 = .ok (.ineg, 1) := by decide +kernel
theorem dX0_shifted_21 : decode cX0_shifted 21 = .ok (.lushr, 1) := by decide +kernel
theorem dX0_shifted_22 : decode cX0_shifted 22 = .ok (.lreturn, 1) := by decide +kernel
set_option maxRecDepth 20000 in
theorem ggX0_nearest_X0_widthOf : GoodIn wsX0_nearest wsX0_widthOf := goodIn_r _ [14, 15, 16, 17, 18, 19, 20, 21, 22, 23] (by decide +kernel) (by decide +kernel)
set_option maxRecDepth 20000 in
theorem gX0_nearest_X0_widthOf : GoodIn wsX0_nearest (va_wsS RX0 76 yX0_widthOf wsX0_widthOf) := goodIn_app (goodIn_of _ (by decide +kernel)) ggX0_nearest_X0_widthOf
set_option maxRecDepth 20000 in
theorem ggX0_nearest_X0_rounded : GoodIn wsX0_nearest wsX0_rounded := goodIn_r _ [26] (by decide +kernel) (by decide +kernel)
set_option maxRecDepth 20000 in
theorem gX0_nearest_X0_rounded : GoodIn wsX0_nearest (va_wsS RX0 94 yX0_rounded wsX0_rounded) := goodIn_app (goodIn_of _ (by decide +kernel)) ggX0_nearest_X0_rounded
theorem dX0_nearest_0 : decode cX0_nearest 0 = .ok (.lload_n 1, 1) := by decide +kernel
theorem dX0_nearest_1 : decode cX0_nearest 1 = .ok (.lconst 0, 1) := by decide +kernel
theorem dX0_nearest_2 : decode cX0_nearest 2 = .ok (.lcmp, 1) := by decide +kernel
theorem dX0_nearest_3 : decode cX0_nearest 3 = .ok (.ifCond .ne 5, 3) := by decide +kernel
theorem dX0_nearest_6 : decode cX0_nearest 6 = .ok (.lconst 0, 1) := by decide +kernel
theorem dX0_nearest_7 : decode cX0_nearest 7 = .ok (.lreturn, 1) := by decide +kernel
theorem dX0_nearest_8 : decode cX0_nearest 8 = .ok (.iload_n 3, 1) := by decide +kernel
theorem dX0_nearest_9 : decode cX0_nearest 9 = .ok (.lload_n 1, 1) := by decide +kernel
theorem dX0_nearest_10 : decode cX0_nearest 10 = .ok (.invokestatic 76, 3) := by decide +kernel
theorem dX0_nearest_13 : decode cX0_nearest 13 = .ok (.iadd, 1) := by decide +kernel
theorem dX0_nearest_14 : decode cX0_nearest 14 = .ok (.aload_n 0, 1) := by decide +kernel
theorem dX0_nearest_15 : decode cX0_nearest 15 = .ok (.getfield 29, 3) := by decide +kernel
theorem dX0_nearest_18 : decode cX0_nearest 18 = .ok (.isub, 1) := by decide +kernel
theorem dX0_nearest_19 : decode cX0_nearest 19 = .ok (.aload_n 0, 1) := by decide +kernel
theorem dX0_nearest_20 : decode cX0_nearest 20 = .ok (.getfield 33, 3) := by decide +kernel
theorem dX0_nearest_23 : decode cX0_nearest 23 = .ok (.invokestatic 91, 3) := by decide +kernel
theorem dX0_nearest_26 : decode cX0_nearest 26 = .ok (.istore 4, 2) := by decide +kernel
theorem dX0_nearest_28 : decode cX0_nearest 28 = .ok (.lload_n 1, 1) := by decide +kernel
theorem dX0_nearest_29 : decode cX0_nearest 29 = .ok (.iload 4, 2) := by decide +kernel
theorem dX0_nearest_31 : decode cX0_nearest 31 = .ok (.iload_n 3, 1) := by decide +kernel
theorem dX0_nearest_32 : decode cX0_nearest 32 = .ok (.isub, 1) := by decide +kernel
theorem dX0_nearest_33 : decode cX0_nearest 33 = .ok (.invokestatic 94, 3) := by decide +kernel
theorem dX0_nearest_36 : decode cX0_nearest 36 = .ok (.lstore 5, 2) := by decide +kernel
theorem dX0_nearest_38 : decode cX0_nearest 38 = .ok (.iload 4, 2) := by decide +kernel
theorem dX0_nearest_40 : decode cX0_nearest 40 = .ok (.aload_n 0, 1) := by decide +kernel
theorem dX0_nearest_41 : decode cX0_nearest 41 = .ok (.getfield 33, 3) := by decide +kernel
theorem dX0_nearest_44 : decode cX0_nearest 44 = .ok (.isub, 1) := by decide +kernel
theorem dX0_nearest_45 : decode cX0_nearest 45 = .ok (.i2l, 1) := by decide +kernel
theorem dX0_nearest_46 : decode cX0_nearest 46 = .ok (.lstore 7, 2) := by decide +kernel
theorem dX0_nearest_48 : decode cX0_nearest 48 = .ok (.lload 7, 2) := by decide +kernel
theorem dX0_nearest_50 : decode cX0_nearest 50 = .ok (.aload_n 0, 1) := by decide +kernel
theorem dX0_nearest_51 : decode cX0_nearest 51 = .ok (.getfield 29, 3) := by decide +kernel
theorem dX0_nearest_54 : decode cX0_nearest 54 = .ok (.iconst 1, 1) := by decide +kernel
theorem dX0_nearest_55 : decode cX0_nearest 55 = .ok (.isub, 1) := by decide +kernel
theorem dX0_nearest_56 : decode cX0_nearest 56 = .ok (.lshl, 1) := by decide +kernel
theorem dX0_nearest_57 : decode cX0_nearest 57 = .ok (.lload 5, 2) := by decide +kernel
theorem dX0_nearest_59 : decode cX0_nearest 59 = .ok (.ladd, 1) := by decide +kernel
theorem dX0_nearest_60 : decode cX0_nearest 60 = .ok (.aload_n 0, 1) := by decide +kernel
theorem dX0_nearest_61 : decode cX0_nearest 61 = .ok (.getfield 36, 3) := by decide +kernel
theorem dX0_nearest_64 : decode cX0_nearest 64 = .ok (.invokestatic 97, 3) := by decide +kernel
theorem dX0_nearest_67 : decode cX0_nearest 67 = .ok (.lreturn, 1) := by decide +kernel
theorem dX0_rounded_0 : decode cX0_rounded 0 = .ok (.iload_n 2, 1) := by decide +kernel
theorem dX0_rounded_1 : decode cX0_rounded 1 = .ok (.ifCond .gt 8, 3) := by decide +kernel
theorem dX0_rounded_4 : decode cX0_rounded 4 = .ok (.lload_n 0, 1) := by decide +kernel
theorem dX0_rounded_5 : decode cX0_rounded 5 = .ok (.iload_n 2, 1) := by decide +kernel
theorem dX0_rounded_6 : decode cX0_rounded 6 = .ok (.ineg, 1) := by decide +kernel
theorem dX0_rounded_7 : decode cX0_rounded 7 = .ok (.lshl, 1) := by decide +kernel
theorem dX0_rounded_8 : decode cX0_rounded 8 = .ok (.lreturn, 1) := by decide +kernel
theorem dX0_rounded_9 : decode cX0_rounded 9 = .ok (.iload_n 2, 1) := by decide +kernel
theorem dX0_rounded_10 : decode cX0_rounded 10 = .ok (.bipush 60, 2) := by decide +kernel
theorem dX0_rounded_12 : decode cX0_rounded 12 = .ok (.if_icmp .le 5, 3) := by decide +kernel
theorem dX0_rounded_15 : decode cX0_rounded 15 = .ok (.lconst 0, 1) := by decide +kernel
theorem dX0_rounded_16 : decode cX0_rounded 16 = .ok (.lreturn, 1) := by decide +kernel
theorem dX0_rounded_17 : decode cX0_rounded 17 = .ok (.lload_n 0, 1) := by decide +kernel
theorem dX0_rounded_18 : decode cX0_rounded 18 = .ok (.iload_n 2, 1) := by decide +kernel
theorem dX0_rounded_19 : decode cX0_rounded 19 = .ok (.lushr, 1) := by decide +kernel
theorem dX0_rounded_20 : decode cX0_rounded 20 = .ok (.lstore_n 3, 1) := by decide +kernel
theorem dX0_rounded_21 : decode cX0_rounded 21 = .ok (.lload_n 0, 1) := by decide +kernel
theorem dX0_rounded_22 : decode cX0_rounded 22 = .ok (.lconst 1, 1) := by decide +kernel
theorem dX0_rounded_23 : decode cX0_rounded 23 = .ok (.iload_n 2, 1) := by decide +kernel
theorem dX0_rounded_24 : decode cX0_rounded 24 = .ok (.lshl, 1) := by decide +kernel
theorem dX0_rounded_25 : decode cX0_rounded 25 = .ok (.lconst 1, 1) := by decide +kernel
theorem dX0_rounded_26 : decode cX0_rounded 26 = .ok (.lsub, 1) := by decide +kernel
theorem dX0_rounded_27 : decode cX0_rounded 27 = .ok (.land, 1) := by decide +kernel
theorem dX0_rounded_28 : decode cX0_rounded 28 = .ok (.lstore 5, 2) := by decide +kernel
theorem dX0_rounded_30 : decode cX0_rounded 30 = .ok (.lconst 1, 1) := by decide +kernel
theorem dX0_rounded_31 : decode cX0_rounded 31 = .ok (.iload_n 2, 1) := by decide +kernel
theorem dX0_rounded_32 : decode cX0_rounded 32 = .ok (.iconst 1, 1) := by decide +kernel
theorem dX0_rounded_33 : decode cX0_rounded 33 = .ok (.isub, 1) := by decide +kernel
theorem dX0_rounded_34 : decode cX0_rounded 34 = .ok (.lshl, 1) := by decide +kernel
theorem dX0_rounded_35 : decode cX0_rounded 35 = .ok (.lstore 7, 2) := by decide +kernel
theorem dX0_rounded_37 : decode cX0_rounded 37 = .ok (.lload 5, 2) := by decide +kernel
theorem dX0_rounded_39 : decode cX0_rounded 39 = .ok (.lload 7, 2) := by decide +kernel
theorem dX0_rounded_41 : decode cX0_rounded 41 = .ok (.lcmp, 1) := by decide +kernel
theorem dX0_rounded_42 : decode cX0_rounded 42 = .ok (.ifCond .gt 19, 3) := by decide +kernel
theorem dX0_rounded_45 : decode cX0_rounded 45 = .ok (.lload 5, 2) := by decide +kernel
theorem dX0_rounded_47 : decode cX0_rounded 47 = .ok (.lload 7, 2) := by decide +kernel
theorem dX0_rounded_49 : decode cX0_rounded 49 = .ok (.lcmp, 1) := by decide +kernel
theorem dX0_rounded_50 : decode cX0_rounded 50 = .ok (.ifCond .ne 15, 3) := by decide +kernel
theorem dX0_rounded_53 : decode cX0_rounded 53 = .ok (.lload_n 3, 1) := by decide +kernel
theorem dX0_rounded_54 : decode cX0_rounded 54 = .ok (.lconst 1, 1) := by decide +kernel
theorem dX0_rounded_55 : decode cX0_rounded 55 = .ok (.land, 1) := by decide +kernel
theorem dX0_rounded_56 : decode cX0_rounded 56 = .ok (.lconst 1, 1) := by decide +kernel
theorem dX0_rounded_57 : decode cX0_rounded 57 = .ok (.lcmp, 1) := by decide +kernel
theorem dX0_rounded_58 : decode cX0_rounded 58 = .ok (.ifCond .ne 7, 3) := by decide +kernel
theorem dX0_rounded_61 : decode cX0_rounded 61 = .ok (.iconst 1, 1) := by decide +kernel
theorem dX0_rounded_62 : decode cX0_rounded 62 = .ok (.goto 4, 3) := by decide +kernel
theorem dX0_rounded_65 : decode cX0_rounded 65 = .ok (.iconst 0, 1) := by decide +kernel
theorem dX0_rounded_66 : decode cX0_rounded 66 = .ok (.istore 9, 2) := by decide +kernel
theorem dX0_rounded_68 : decode cX0_rounded 68 = .ok (.iload 9, 2) := by decide +kernel
theorem dX0_rounded_70 : decode cX0_rounded 70 = .ok (.ifCond .eq 9, 3) := by decide +kernel
theorem dX0_rounded_73 : decode cX0_rounded 73 = .ok (.lload_n 3, 1) := by decide +kernel
theorem dX0_rounded_74 : decode cX0_rounded 74 = .ok (.lconst 1, 1) := by decide +kernel
theorem dX0_rounded_75 : decode cX0_rounded 75 = .ok (.ladd, 1) := by decide +kernel
theorem dX0_rounded_76 : decode cX0_rounded 76 = .ok (.goto 4, 3) := by decide +kernel
theorem dX0_rounded_79 : decode cX0_rounded 79 = .ok (.lload_n 3, 1) := by decide +kernel
theorem dX0_rounded_80 : decode cX0_rounded 80 = .ok (.lreturn, 1) := by decide +kernel
set_option maxRecDepth 20000 in
theorem ggX1_init_X1_setKnown : GoodIn wsX1_init wsX1_setKnown := goodIn_ca (goodIn_r _ [16, 5, 7, 8, 10, 17, 18, 15, 19, 20, 21, 22, 23, 24] (by decide +kernel) (by decide +kernel)) (goodIn_sub (fun _ h => List.mem_cons_of_mem _ (List.mem_append_right _ h)) (by decide +kernel))
set_option maxRecDepth 20000 in
theorem gX1_init_X1_setKnown : GoodIn wsX1_init (wsV RX1 30 RX1 yX1_setKnown wsX1_setKnown) := goodIn_app (goodIn_of _ (by decide +kernel)) ggX1_init_X1_setKnown
set_option maxRecDepth 20000 in
theorem ggX1_init_X1_bit : GoodIn wsX1_init wsX1_bit := goodIn_r _ [19] (by decide +kernel) (by decide +kernel)
set_option maxRecDepth 20000 in
theorem gX1_init_X1_bit : GoodIn wsX1_init (va_wsS RX1 34 yX1_bit wsX1_bit) := goodIn_app (goodIn_of _ (by decide +kernel)) ggX1_init_X1_bit
theorem dX1_init_0 : decode cX1_init 0 = .ok (.aload_n 0, 1) := by decide +kernel
theorem dX1_init_1 : decode cX1_init 1 = .ok (.invokespecial 3, 3) := by decide +kernel
theorem dX1_init_4 : decode cX1_init 4 = .ok (.aload_n 0, 1) := by decide +kernel
theorem dX1_init_5 : decode cX1_init 5 = .ok (.bipush 40, 2) := by decide +kernel
theorem dX1_init_7 : decode cX1_init 7 = .ok (.newarray .int, 2) := by decide +kernel
theorem dX1_init_9 : decode cX1_init 9 = .ok (.putfield 9, 3) := by decide +kernel
theorem dX1_init_12 : decode cX1_init 12 = .ok (.aload_n 0, 1) := by decide +kernel
theorem dX1_init_13 : decode cX1_init 13 = .ok (.bipush 40, 2) := by decide +kernel
theorem dX1_init_15 : decode cX1_init 15 = .ok (.newarray .boolean, 2) := by decide +kernel
theorem dX1_init_17 : decode cX1_init 17 = .ok (.putfield 15, 3) := by decide +kernel
theorem dX1_init_20 : decode cX1_init 20 = .ok (.aload_n 0, 1) := by decide +kernel
theorem dX1_init_21 : decode cX1_init 21 = .ok (.bipush 40, 2) := by decide +kernel
theorem dX1_init_23 : decode cX1_init 23 = .ok (.newarray .int, 2) := by decide +kernel
theorem dX1_init_25 : decode cX1_init 25 = .ok (.putfield 19, 3) := by decide +kernel
theorem dX1_init_28 : decode cX1_init 28 = .ok (.aload_n 0, 1) := by decide +kernel
theorem dX1_init_29 : decode cX1_init 29 = .ok (.bipush 40, 2) := by decide +kernel
theorem dX1_init_31 : decode cX1_init 31 = .ok (.newarray .long, 2) := by decide +kernel
theorem dX1_init_33 : decode cX1_init 33 = .ok (.putfield 22, 3) := by decide +kernel
theorem dX1_init_36 : decode cX1_init 36 = .ok (.aload_n 0, 1) := by decide +kernel
theorem dX1_init_37 : decode cX1_init 37 = .ok (.iconst 0, 1) := by decide +kernel
theorem dX1_init_38 : decode cX1_init 38 = .ok (.putfield 26, 3) := by decide +kernel
theorem dX1_init_41 : decode cX1_init 41 = .ok (.iconst 0, 1) := by decide +kernel
theorem dX1_init_42 : decode cX1_init 42 = .ok (.istore_n 1, 1) := by decide +kernel
theorem dX1_init_43 : decode cX1_init 43 = .ok (.iload_n 1, 1) := by decide +kernel
theorem dX1_init_44 : decode cX1_init 44 = .ok (.bipush 7, 2) := by decide +kernel
theorem dX1_init_46 : decode cX1_init 46 = .ok (.if_icmp .gt 23, 3) := by decide +kernel
theorem dX1_init_49 : decode cX1_init 49 = .ok (.aload_n 0, 1) := by decide +kernel
theorem dX1_init_50 : decode cX1_init 50 = .ok (.getfield 9, 3) := by decide +kernel
theorem dX1_init_53 : decode cX1_init 53 = .ok (.iload_n 1, 1) := by decide +kernel
theorem dX1_init_54 : decode cX1_init 54 = .ok (.iconst 0, 1) := by decide +kernel
theorem dX1_init_55 : decode cX1_init 55 = .ok (.iastore, 1) := by decide +kernel
theorem dX1_init_56 : decode cX1_init 56 = .ok (.aload_n 0, 1) := by decide +kernel
theorem dX1_init_57 : decode cX1_init 57 = .ok (.getfield 19, 3) := by decide +kernel
theorem dX1_init_60 : decode cX1_init 60 = .ok (.iload_n 1, 1) := by decide +kernel
theorem dX1_init_61 : decode cX1_init 61 = .ok (.iconst (-1), 1) := by decide +kernel
theorem dX1_init_62 : decode cX1_init 62 = .ok (.iastore, 1) := by decide +kernel
theorem dX1_init_63 : decode cX1_init 63 = .ok (.iinc 1 1, 3) := by decide +kernel
theorem dX1_init_66 : decode cX1_init 66 = .ok (.goto (-23), 3) := by decide +kernel
theorem dX1_init_69 : decode cX1_init 69 = .ok (.aload_n 0, 1) := by decide +kernel
theorem dX1_init_70 : decode cX1_init 70 = .ok (.bipush 16, 2) := by decide +kernel
theorem dX1_init_72 : decode cX1_init 72 = .ok (.iconst 1, 1) := by decide +kernel
theorem dX1_init_73 : decode cX1_init 73 = .ok (.iconst 0, 1) := by decide +kernel
theorem dX1_init_74 : decode cX1_init 74 = .ok (.lconst 0, 1) := by decide +kernel
theorem dX1_init_75 : decode cX1_init 75 = .ok (.invokevirtual 30, 3) := by decide +kernel
theorem dX1_init_78 : decode cX1_init 78 = .ok (.aload_n 0, 1) := by decide +kernel
theorem dX1_init_79 : decode cX1_init 79 = .ok (.bipush 18, 2) := by decide +kernel
theorem dX1_init_81 : decode cX1_init 81 = .ok (.iconst 2, 1) := by decide +kernel
theorem dX1_init_82 : decode cX1_init 82 = .ok (.iconst 0, 1) := by decide +kernel
theorem dX1_init_83 : decode cX1_init 83 = .ok (.aload_n 0, 1) := by decide +kernel
theorem dX1_init_84 : decode cX1_init 84 = .ok (.getfield 22, 3) := by decide +kernel
theorem dX1_init_87 : decode cX1_init 87 = .ok (.bipush 16, 2) := by decide +kernel
theorem dX1_init_89 : decode cX1_init 89 = .ok (.laload, 1) := by decide +kernel
theorem dX1_init_90 : decode cX1_init 90 = .ok (.invokevirtual 30, 3) := by decide +kernel
theorem dX1_init_93 : decode cX1_init 93 = .ok (.aload_n 0, 1) := by decide +kernel
theorem dX1_init_94 : decode cX1_init 94 = .ok (.bipush 19, 2) := by decide +kernel
theorem dX1_init_96 : decode cX1_init 96 = .ok (.iconst 2, 1) := by decide +kernel
theorem dX1_init_97 : decode cX1_init 97 = .ok (.iconst 0, 1) := by decide +kernel
theorem dX1_init_98 : decode cX1_init 98 = .ok (.aload_n 0, 1) := by decide +kernel
theorem dX1_init_99 : decode cX1_init 99 = .ok (.getfield 22, 3) := by decide +kernel
theorem dX1_init_102 : decode cX1_init 102 = .ok (.bipush 16, 2) := by decide +kernel
theorem dX1_init_104 : decode cX1_init 104 = .ok (.laload, 1) := by decide +kernel
theorem dX1_init_105 : decode cX1_init 105 = .ok (.invokevirtual 30, 3) := by decide +kernel
theorem dX1_init_108 : decode cX1_init 108 = .ok (.aload_n 0, 1) := by decide +kernel
theorem dX1_init_109 : decode cX1_init 109 = .ok (.bipush 20, 2) := by decide +kernel
theorem dX1_init_111 : decode cX1_init 111 = .ok (.iconst 2, 1) := by decide +kernel
theorem dX1_init_112 : decode cX1_init 112 = .ok (.iconst 0, 1) := by decide +kernel
theorem dX1_init_113 : decode cX1_init 113 = .ok (.aload_n 0, 1) := by decide +kernel
theorem dX1_init_114 : decode cX1_init 114 = .ok (.getfield 22, 3) := by decide +kernel
theorem dX1_init_117 : decode cX1_init 117 = .ok (.bipush 16, 2) := by decide +kernel
theorem dX1_init_119 : decode cX1_init 119 = .ok (.laload, 1) := by decide +kernel
theorem dX1_init_120 : decode cX1_init 120 = .ok (.invokevirtual 30, 3) := by decide +kernel
theorem dX1_init_123 : decode cX1_init 123 = .ok (.aload_n 0, 1) := by decide +kernel
theorem dX1_init_124 : decode cX1_init 124 = .ok (.bipush 17, 2) := by decide +kernel
theorem dX1_init_126 : decode cX1_init 126 = .ok (.iconst 1, 1) := by decide +kernel
theorem dX1_init_127 : decode cX1_init 127 = .ok (.iconst 0, 1) := by decide +kernel
theorem dX1_init_128 : decode cX1_init 128 = .ok (.aload_n 0, 1) := by decide +kernel
theorem dX1_init_129 : decode cX1_init 129 = .ok (.getfield 22, 3) := by decide +kernel
theorem dX1_init_132 : decode cX1_init 132 = .ok (.bipush 19, 2) := by decide +kernel
theorem dX1_init_134 : decode cX1_init 134 = .ok (.laload, 1) := by decide +kernel
theorem dX1_init_135 : decode cX1_init 135 = .ok (.invokevirtual 30, 3) := by decide +kernel
theorem dX1_init_138 : decode cX1_init 138 = .ok (.aload_n 0, 1) := by decide +kernel
theorem dX1_init_139 : decode cX1_init 139 = .ok (.getfield 22, 3) := by decide +kernel
theorem dX1_init_142 : decode cX1_init 142 = .ok (.bipush 18, 2) := by decide +kernel
theorem dX1_init_144 : decode cX1_init 144 = .ok (.laload, 1) := by decide +kernel
theorem dX1_init_145 : decode cX1_init 145 = .ok (.aload_n 0, 1) := by decide +kernel
theorem dX1_init_146 : decode cX1_init 146 = .ok (.getfield 22, 3) := by decide +kernel
theorem dX1_init_149 : decode cX1_init 149 = .ok (.bipush 19, 2) := by decide +kernel
theorem dX1_init_151 : decode cX1_init 151 = .ok (.laload, 1) := by decide +kernel
theorem dX1_init_152 : decode cX1_init 152 = .ok (.lor, 1) := by decide +kernel
theorem dX1_init_153 : decode cX1_init 153 = .ok (.lstore_n 1, 1) := by decide +kernel
theorem dX1_init_154 : decode cX1_init 154 = .ok (.aload_n 0, 1) := by decide +kernel
theorem dX1_init_155 : decode cX1_init 155 = .ok (.getfield 22, 3) := by decide +kernel
theorem dX1_init_158 : decode cX1_init 158 = .ok (.bipush 17, 2) := by decide +kernel
theorem dX1_init_160 : decode cX1_init 160 = .ok (.laload, 1) := by decide +kernel
theorem dX1_init_161 : decode cX1_init 161 = .ok (.aload_n 0, 1) := by decide +kernel
theorem dX1_init_162 : decode cX1_init 162 = .ok (.getfield 22, 3) := by decide +kernel
theorem dX1_init_165 : decode cX1_init 165 = .ok (.bipush 18, 2) := by decide +kernel
theorem dX1_init_167 : decode cX1_init 167 = .ok (.laload, 1) := by decide +kernel
theorem dX1_init_168 : decode cX1_init 168 = .ok (.lor, 1) := by decide +kernel
theorem dX1_init_169 : decode cX1_init 169 = .ok (.lstore_n 3, 1) := by decide +kernel
theorem dX1_init_170 : decode cX1_init 170 = .ok (.bipush 8, 2) := by decide +kernel
theorem dX1_init_172 : decode cX1_init 172 = .ok (.istore 5, 2) := by decide +kernel
theorem dX1_init_174 : decode cX1_init 174 = .ok (.iload 5, 2) := by decide +kernel
theorem dX1_init_176 : decode cX1_init 176 = .ok (.bipush 15, 2) := by decide +kernel
theorem dX1_init_178 : decode cX1_init 178 = .ok (.if_icmp .gt 41, 3) := by decide +kernel
theorem dX1_init_181 : decode cX1_init 181 = .ok (.iload 5, 2) := by decide +kernel
theorem dX1_init_183 : decode cX1_init 183 = .ok (.bipush 10, 2) := by decide +kernel
theorem dX1_init_185 : decode cX1_init 185 = .ok (.if_icmp .lt 7, 3) := by decide +kernel
theorem dX1_init_188 : decode cX1_init 188 = .ok (.iconst 1, 1) := by decide +kernel
theorem dX1_init_189 : decode cX1_init 189 = .ok (.goto 4, 3) := by decide +kernel
theorem dX1_init_192 : decode cX1_init 192 = .ok (.iconst 0, 1) := by decide +kernel
theorem dX1_init_193 : decode cX1_init 193 = .ok (.istore 6, 2) := by decide +kernel
theorem dX1_init_195 : decode cX1_init 195 = .ok (.aload_n 0, 1) := by decide +kernel
theorem dX1_init_196 : decode cX1_init 196 = .ok (.iload 5, 2) := by decide +kernel
theorem dX1_init_198 : decode cX1_init 198 = .ok (.iconst 1, 1) := by decide +kernel
theorem dX1_init_199 : decode cX1_init 199 = .ok (.iconst 1, 1) := by decide +kernel
theorem dX1_init_200 : decode cX1_init 200 = .ok (.iload 6, 2) := by decide +kernel
theorem dX1_init_202 : decode cX1_init 202 = .ok (.ifCond .eq 7, 3) := by decide +kernel
theorem dX1_init_205 : decode cX1_init 205 = .ok (.lload_n 3, 1) := by decide +kernel
theorem dX1_init_206 : decode cX1_init 206 = .ok (.goto 4, 3) := by decide +kernel
theorem dX1_init_209 : decode cX1_init 209 = .ok (.lload_n 1, 1) := by decide +kernel
theorem dX1_init_210 : decode cX1_init 210 = .ok (.invokevirtual 30, 3) := by decide +kernel
theorem dX1_init_213 : decode cX1_init 213 = .ok (.iinc 5 1, 3) := by decide +kernel
theorem dX1_init_216 : decode cX1_init 216 = .ok (.goto (-42), 3) := by decide +kernel
theorem dX1_init_219 : decode cX1_init 219 = .ok (.aload_n 0, 1) := by decide +kernel
theorem dX1_init_220 : decode cX1_init 220 = .ok (.bipush 21, 2) := by decide +kernel
theorem dX1_init_222 : decode cX1_init 222 = .ok (.iconst 1, 1) := by decide +kernel
theorem dX1_init_223 : decode cX1_init 223 = .ok (.iconst 1, 1) := by decide +kernel
theorem dX1_init_224 : decode cX1_init 224 = .ok (.lload_n 1, 1) := by decide +kernel
theorem dX1_init_225 : decode cX1_init 225 = .ok (.invokevirtual 30, 3) := by decide +kernel
theorem dX1_init_228 : decode cX1_init 228 = .ok (.aload_n 0, 1) := by decide +kernel
theorem dX1_init_229 : decode cX1_init 229 = .ok (.bipush 22, 2) := by decide +kernel
theorem dX1_init_231 : decode cX1_init 231 = .ok (.iconst 4, 1) := by decide +kernel
theorem dX1_init_232 : decode cX1_init 232 = .ok (.iconst 0, 1) := by decide +kernel
theorem dX1_init_233 : decode cX1_init 233 = .ok (.lconst 0, 1) := by decide +kernel
theorem dX1_init_234 : decode cX1_init 234 = .ok (.invokevirtual 30, 3) := by decide +kernel
theorem dX1_init_237 : decode cX1_init 237 = .ok (.bipush 8, 2) := by decide +kernel
theorem dX1_init_239 : decode cX1_init 239 = .ok (.istore 5, 2) := by decide +kernel
theorem dX1_init_241 : decode cX1_init 241 = .ok (.iload 5, 2) := by decide +kernel
theorem dX1_init_243 : decode cX1_init 243 = .ok (.bipush 22, 2) := by decide +kernel
theorem dX1_init_245 : decode cX1_init 245 = .ok (.if_icmp .ge 24, 3) := by decide +kernel
theorem dX1_init_248 : decode cX1_init 248 = .ok (.aload_n 0, 1) := by decide +kernel
theorem dX1_init_249 : decode cX1_init 249 = .ok (.getfield 22, 3) := by decide +kernel
theorem dX1_init_252 : decode cX1_init 252 = .ok (.bipush 22, 2) := by decide +kernel
theorem dX1_init_254 : decode cX1_init 254 = .ok (.dup2, 1) := by decide +kernel
theorem dX1_init_255 : decode cX1_init 255 = .ok (.laload, 1) := by decide +kernel
theorem dX1_init_256 : decode cX1_init 256 = .ok (.iload 5, 2) := by decide +kernel
theorem dX1_init_258 : decode cX1_init 258 = .ok (.invokestatic 34, 3) := by decide +kernel
theorem dX1_init_261 : decode cX1_init 261 = .ok (.lor, 1) := by decide +kernel
theorem dX1_init_262 : decode cX1_init 262 = .ok (.lastore, 1) := by decide +kernel
theorem dX1_init_263 : decode cX1_init 263 = .ok (.iinc 5 1, 3) := by decide +kernel
theorem dX1_init_266 : decode cX1_init 266 = .ok (.goto (-25), 3) := by decide +kernel
theorem dX1_init_269 : decode cX1_init 269 = .ok (.aload_n 0, 1) := by decide +kernel
theorem dX1_init_270 : decode cX1_init 270 = .ok (.bipush 23, 2) := by decide +kernel
theorem dX1_init_272 : decode cX1_init 272 = .ok (.putfield 26, 3) := by decide +kernel
theorem dX1_init_275 : decode cX1_init 275 = .ok (.return_, 1) := by decide +kernel
set_option maxRecDepth 20000 in
theorem ggX1_setKnown_X1_bit : GoodIn wsX1_setKnown wsX1_bit := goodIn_r _ [8] (by decide +kernel) (by decide +kernel)
set_option maxRecDepth 20000 in
theorem gX1_setKnown_X1_bit : GoodIn wsX1_setKnown (va_wsS RX1 34 yX1_bit wsX1_bit) := goodIn_app (goodIn_of _ (by decide +kernel)) ggX1_setKnown_X1_bit
theorem dX1_setKnown_0 : decode cX1_setKnown 0 = .ok (.aload_n 0, 1) := by decide +kernel
theorem dX1_setKnown_1 : decode cX1_setKnown 1 = .ok (.getfield 9, 3) := by decide +kernel
theorem dX1_setKnown_4 : decode cX1_setKnown 4 = .ok (.iload_n 1, 1) := by decide +kernel
theorem dX1_setKnown_5 : decode cX1_setKnown 5 = .ok (.iload_n 2, 1) := by decide +kernel
theorem dX1_setKnown_6 : decode cX1_setKnown 6 = .ok (.iastore, 1) := by decide +kernel
theorem dX1_setKnown_7 : decode cX1_setKnown 7 = .ok (.aload_n 0, 1) := by decide +kernel
theorem dX1_setKnown_8 : decode cX1_setKnown 8 = .ok (.getfield 15, 3) := by decide +kernel
theorem dX1_setKnown_11 : decode cX1_setKnown 11 = .ok (.iload_n 1, 1) := by decide +kernel
theorem dX1_setKnown_12 : decode cX1_setKnown 12 = .ok (.iload_n 3, 1) := by decide +kernel
theorem dX1_setKnown_13 : decode cX1_setKnown 13 = .ok (.bastore, 1) := by decide +kernel
theorem dX1_setKnown_14 : decode cX1_setKnown 14 = .ok (.aload_n 0, 1) := by decide +kernel
theorem dX1_setKnown_15 : decode cX1_setKnown 15 = .ok (.getfield 19, 3) := by decide +kernel
theorem dX1_setKnown_18 : decode cX1_setKnown 18 = .ok (.iload_n 1, 1) := by decide +kernel
theorem dX1_setKnown_19 : decode cX1_setKnown 19 = .ok (.iconst (-1), 1) := by decide +kernel
theorem dX1_setKnown_20 : decode cX1_setKnown 20 = .ok (.iastore, 1) := by decide +kernel
theorem dX1_setKnown_21 : decode cX1_setKnown 21 = .ok (.aload_n 0, 1) := by decide +kernel
theorem dX1_setKnown_22 : decode cX1_setKnown 22 = .ok (.getfield 22, 3) := by decide +kernel
theorem dX1_setKnown_25 : decode cX1_setKnown 25 = .ok (.iload_n 1, 1) := by decide +kernel
theorem dX1_setKnown_26 : decode cX1_setKnown 26 = .ok (.lload 4, 2) := by decide +kernel
theorem dX1_setKnown_28 : decode cX1_setKnown 28 = .ok (.iload_n 1, 1) := by decide +kernel
theorem dX1_setKnown_29 : decode cX1_setKnown 29 = .ok (.invokestatic 34, 3) := by decide +kernel
theorem dX1_setKnown_32 : decode cX1_setKnown 32 = .ok (.lor, 1) := by decide +kernel
theorem dX1_setKnown_33 : decode cX1_setKnown 33 = .ok (.lastore, 1) := by decide +kernel
theorem dX1_setKnown_34 : decode cX1_setKnown 34 = .ok (.return_, 1) := by decide +kernel
theorem dX1_bit_0 : decode cX1_bit 0 = .ok (.lconst 1, 1) := by decide +kernel
theorem dX1_bit_1 : decode cX1_bit 1 = .ok (.iload_n 0, 1) := by decide +kernel
theorem dX1_bit_2 : decode cX1_bit 2 = .ok (.lshl, 1) := by decide +kernel
theorem dX1_bit_3 : decode cX1_bit 3 = .ok (.lreturn, 1) := by decide +kernel
theorem dX1_size_0 : decode cX1_size 0 = .ok (.aload_n 0, 1) := by decide +kernel
theorem dX1_size_1 : decode cX1_size 1 = .ok (.getfield 26, 3) := by decide +kernel
theorem dX1_size_4 : decode cX1_size 4 = .ok (.ireturn, 1) := by decide +kernel
theorem dX1_isFull_0 : decode cX1_isFull 0 = .ok (.aload_n 0, 1) := by decide +kernel
theorem dX1_isFull_1 : decode cX1_isFull 1 = .ok (.getfield 26, 3) := by decide +kernel
theorem dX1_isFull_4 : decode cX1_isFull 4 = .ok (.bipush 40, 2) := by decide +kernel
theorem dX1_isFull_6 : decode cX1_isFull 6 = .ok (.if_icmp .lt 7, 3) := by decide +kernel
theorem dX1_isFull_9 : decode cX1_isFull 9 = .ok (.iconst 1, 1) := by decide +kernel
theorem dX1_isFull_10 : decode cX1_isFull 10 = .ok (.goto 4, 3) := by decide +kernel
theorem dX1_isFull_13 : decode cX1_isFull 13 = .ok (.iconst 0, 1) := by decide +kernel
theorem dX1_isFull_14 : decode cX1_isFull 14 = .ok (.ireturn, 1) := by decide +kernel
theorem dX1_has_0 : decode cX1_has 0 = .ok (.iload_n 1, 1) := by decide +kernel
theorem dX1_has_1 : decode cX1_has 1 = .ok (.ifCond .lt 15, 3) := by decide +kernel
theorem dX1_has_4 : decode cX1_has 4 = .ok (.iload_n 1, 1) := by decide +kernel
theorem dX1_has_5 : decode cX1_has 5 = .ok (.aload_n 0, 1) := by decide +kernel
theorem dX1_has_6 : decode cX1_has 6 = .ok (.getfield 26, 3) := by decide +kernel
theorem dX1_has_9 : decode cX1_has 9 = .ok (.if_icmp .ge 7, 3) := by decide +kernel
theorem dX1_has_12 : decode cX1_has 12 = .ok (.iconst 1, 1) := by decide +kernel
theorem dX1_has_13 : decode cX1_has 13 = .ok (.goto 4, 3) := by decide +kernel
theorem dX1_has_16 : decode cX1_has 16 = .ok (.iconst 0, 1) := by decide +kernel
theorem dX1_has_17 : decode cX1_has 17 = .ok (.ireturn, 1) := by decide +kernel
theorem dX1_sortOf_0 : decode cX1_sortOf 0 = .ok (.aload_n 0, 1) := by decide +kernel
theorem dX1_sortOf_1 : decode cX1_sortOf 1 = .ok (.getfield 9, 3) := by decide +kernel
theorem dX1_sortOf_4 : decode cX1_sortOf 4 = .ok (.iload_n 1, 1) := by decide +kernel
theorem dX1_sortOf_5 : decode cX1_sortOf 5 = .ok (.iaload, 1) := by decide +kernel
theorem dX1_sortOf_6 : decode cX1_sortOf 6 = .ok (.ireturn, 1) := by decide +kernel
theorem dX1_isFinal_0 : decode cX1_isFinal 0 = .ok (.aload_n 0, 1) := by decide +kernel
theorem dX1_isFinal_1 : decode cX1_isFinal 1 = .ok (.getfield 15, 3) := by decide +kernel
theorem dX1_isFinal_4 : decode cX1_isFinal 4 = .ok (.iload_n 1, 1) := by decide +kernel
theorem dX1_isFinal_5 : decode cX1_isFinal 5 = .ok (.baload, 1) := by decide +kernel
theorem dX1_isFinal_6 : decode cX1_isFinal 6 = .ok (.ireturn, 1) := by decide +kernel
theorem dX1_elementOf_0 : decode cX1_elementOf 0 = .ok (.aload_n 0, 1) := by decide +kernel
theorem dX1_elementOf_1 : decode cX1_elementOf 1 = .ok (.getfield 19, 3) := by decide +kernel
theorem dX1_elementOf_4 : decode cX1_elementOf 4 = .ok (.iload_n 1, 1) := by decide +kernel
theorem dX1_elementOf_5 : decode cX1_elementOf 5 = .ok (.iaload, 1) := by decide +kernel
theorem dX1_elementOf_6 : decode cX1_elementOf 6 = .ok (.ireturn, 1) := by decide +kernel
set_option maxRecDepth 20000 in
theorem ggX1_countAbove_J13_bitCount_95d88 : GoodIn wsX1_countAbove wsJ13_bitCount_95d88 := goodIn_r _ [5, 6, 7, 8] (by decide +kernel) (by decide +kernel)
set_option maxRecDepth 20000 in
theorem gX1_countAbove_J13_bitCount_95d88 : GoodIn wsX1_countAbove (va_wsS RX1 38 yJ13_bitCount_95d88 wsJ13_bitCount_95d88) := goodIn_app (goodIn_of _ (by decide +kernel)) ggX1_countAbove_J13_bitCount_95d88
theorem dX1_countAbove_0 : decode cX1_countAbove 0 = .ok (.aload_n 0, 1) := by decide +kernel
theorem dX1_countAbove_1 : decode cX1_countAbove 1 = .ok (.getfield 22, 3) := by decide +kernel
theorem dX1_countAbove_4 : decode cX1_countAbove 4 = .ok (.iload_n 1, 1) := by decide +kernel
theorem dX1_countAbove_5 : decode cX1_countAbove 5 = .ok (.laload, 1) := by decide +kernel
theorem dX1_countAbove_6 : decode cX1_countAbove 6 = .ok (.invokestatic 38, 3) := by decide +kernel
theorem dX1_countAbove_9 : decode cX1_countAbove 9 = .ok (.ireturn, 1) := by decide +kernel
set_option maxRecDepth 20000 in
theorem ggX1_isUnder_X1_bit : GoodIn wsX1_isUnder wsX1_bit := goodIn_r _ [5] (by decide +kernel) (by decide +kernel)
set_option maxRecDepth 20000 in
theorem gX1_isUnder_X1_bit : GoodIn wsX1_isUnder (va_wsS RX1 34 yX1_bit wsX1_bit) := goodIn_app (goodIn_of _ (by decide +kernel)) ggX1_isUnder_X1_bit
theorem dX1_isUnder_0 : decode cX1_isUnder 0 = .ok (.aload_n 0, 1) := by decide +kernel
theorem dX1_isUnder_1 : decode cX1_isUnder 1 = .ok (.getfield 22, 3) := by decide +kernel
theorem dX1_isUnder_4 : decode cX1_isUnder 4 = .ok (.iload_n 1, 1) := by decide +kernel
theorem dX1_isUnder_5 : decode cX1_isUnder 5 = .ok (.laload, 1) := by decide +kernel
theorem dX1_isUnder_6 : decode cX1_isUnder 6 = .ok (.iload_n 2, 1) := by decide +kernel
theorem dX1_isUnder_7 : decode cX1_isUnder 7 = .ok (.invokestatic 34, 3) := by decide +kernel
theorem dX1_isUnder_10 : decode cX1_isUnder 10 = .ok (.land, 1) := by decide +kernel
theorem dX1_isUnder_11 : decode cX1_isUnder 11 = .ok (.lconst 0, 1) := by decide +kernel
theorem dX1_isUnder_12 : decode cX1_isUnder 12 = .ok (.lcmp, 1) := by decide +kernel
theorem dX1_isUnder_13 : decode cX1_isUnder 13 = .ok (.ifCond .eq 7, 3) := by decide +kernel
theorem dX1_isUnder_16 : decode cX1_isUnder 16 = .ok (.iconst 1, 1) := by decide +kernel
theorem dX1_isUnder_17 : decode cX1_isUnder 17 = .ok (.goto 4, 3) := by decide +kernel
theorem dX1_isUnder_20 : decode cX1_isUnder 20 = .ok (.iconst 0, 1) := by decide +kernel
theorem dX1_isUnder_21 : decode cX1_isUnder 21 = .ok (.ireturn, 1) := by decide +kernel
theorem dX1_mayHaveSubclass_0 : decode cX1_mayHaveSubclass 0 = .ok (.aload_n 0, 1) := by decide +kernel
theorem dX1_mayHaveSubclass_1 : decode cX1_mayHaveSubclass 1 = .ok (.getfield 9, 3) := by decide +kernel
theorem dX1_mayHaveSubclass_4 : decode cX1_mayHaveSubclass 4 = .ok (.iload_n 1, 1) := by decide +kernel
theorem dX1_mayHaveSubclass_5 : decode cX1_mayHaveSubclass 5 = .ok (.iaload, 1) := by decide +kernel
theorem dX1_mayHaveSubclass_6 : decode cX1_mayHaveSubclass 6 = .ok (.iconst 1, 1) := by decide +kernel
theorem dX1_mayHaveSubclass_7 : decode cX1_mayHaveSubclass 7 = .ok (.if_icmp .ne 22, 3) := by decide +kernel
theorem dX1_mayHaveSubclass_10 : decode cX1_mayHaveSubclass 10 = .ok (.aload_n 0, 1) := by decide +kernel
theorem dX1_mayHaveSubclass_11 : decode cX1_mayHaveSubclass 11 = .ok (.getfield 15, 3) := by decide +kernel
theorem dX1_mayHaveSubclass_14 : decode cX1_mayHaveSubclass 14 = .ok (.iload_n 1, 1) := by decide +kernel
theorem dX1_mayHaveSubclass_15 : decode cX1_mayHaveSubclass 15 = .ok (.baload, 1) := by decide +kernel
theorem dX1_mayHaveSubclass_16 : decode cX1_mayHaveSubclass 16 = .ok (.ifCond .ne 13, 3) := by decide +kernel
theorem dX1_mayHaveSubclass_19 : decode cX1_mayHaveSubclass 19 = .ok (.iload_n 1, 1) := by decide +kernel
theorem dX1_mayHaveSubclass_20 : decode cX1_mayHaveSubclass 20 = .ok (.bipush 17, 2) := by decide +kernel
theorem dX1_mayHaveSubclass_22 : decode cX1_mayHaveSubclass 22 = .ok (.if_icmp .eq 7, 3) := by decide +kernel
theorem dX1_mayHaveSubclass_25 : decode cX1_mayHaveSubclass 25 = .ok (.iconst 1, 1) := by decide +kernel
theorem dX1_mayHaveSubclass_26 : decode cX1_mayHaveSubclass 26 = .ok (.goto 4, 3) := by decide +kernel
theorem dX1_mayHaveSubclass_29 : decode cX1_mayHaveSubclass 29 = .ok (.iconst 0, 1) := by decide +kernel
theorem dX1_mayHaveSubclass_30 : decode cX1_mayHaveSubclass 30 = .ok (.ireturn, 1) := by decide +kernel
theorem dX1_arrayOf_0 : decode cX1_arrayOf 0 = .ok (.bipush 23, 2) := by decide +kernel
theorem dX1_arrayOf_2 : decode cX1_arrayOf 2 = .ok (.istore_n 2, 1) := by decide +kernel
theorem dX1_arrayOf_3 : decode cX1_arrayOf 3 = .ok (.iload_n 2, 1) := by decide +kernel
theorem dX1_arrayOf_4 : decode cX1_arrayOf 4 = .ok (.aload_n 0, 1) := by decide +kernel
theorem dX1_arrayOf_5 : decode cX1_arrayOf 5 = .ok (.getfield 26, 3) := by decide +kernel
theorem dX1_arrayOf_8 : decode cX1_arrayOf 8 = .ok (.if_icmp .ge 31, 3) := by decide +kernel
theorem dX1_arrayOf_11 : decode cX1_arrayOf 11 = .ok (.aload_n 0, 1) := by decide +kernel
theorem dX1_arrayOf_12 : decode cX1_arrayOf 12 = .ok (.getfield 9, 3) := by decide +kernel
theorem dX1_arrayOf_15 : decode cX1_arrayOf 15 = .ok (.iload_n 2, 1) := by decide +kernel
theorem dX1_arrayOf_16 : decode cX1_arrayOf 16 = .ok (.iaload, 1) := by decide +kernel
theorem dX1_arrayOf_17 : decode cX1_arrayOf 17 = .ok (.iconst 3, 1) := by decide +kernel
theorem dX1_arrayOf_18 : decode cX1_arrayOf 18 = .ok (.if_icmp .ne 15, 3) := by decide +kernel
theorem dX1_arrayOf_21 : decode cX1_arrayOf 21 = .ok (.aload_n 0, 1) := by decide +kernel
theorem dX1_arrayOf_22 : decode cX1_arrayOf 22 = .ok (.getfield 19, 3) := by decide +kernel
theorem dX1_arrayOf_25 : decode cX1_arrayOf 25 = .ok (.iload_n 2, 1) := by decide +kernel
theorem dX1_arrayOf_26 : decode cX1_arrayOf 26 = .ok (.iaload, 1) := by decide +kernel
theorem dX1_arrayOf_27 : decode cX1_arrayOf 27 = .ok (.iload_n 1, 1) := by decide +kernel
theorem dX1_arrayOf_28 : decode cX1_arrayOf 28 = .ok (.if_icmp .ne 5, 3) := by decide +kernel
theorem dX1_arrayOf_31 : decode cX1_arrayOf 31 = .ok (.iload_n 2, 1) := by decide +kernel
theorem dX1_arrayOf_32 : decode cX1_arrayOf 32 = .ok (.ireturn, 1) := by decide +kernel
theorem dX1_arrayOf_33 : decode cX1_arrayOf 33 = .ok (.iinc 2 1, 3) := by decide +kernel
theorem dX1_arrayOf_36 : decode cX1_arrayOf 36 = .ok (.goto (-33), 3) := by decide +kernel
theorem dX1_arrayOf_39 : decode cX1_arrayOf 39 = .ok (.iconst (-1), 1) := by decide +kernel
theorem dX1_arrayOf_40 : decode cX1_arrayOf 40 = .ok (.ireturn, 1) := by decide +kernel
set_option maxRecDepth 20000 in
theorem ggX1_addClass_X1_aboveOrNothing : GoodIn wsX1_addClass wsX1_aboveOrNothing := goodIn_ca (goodIn_r _ [6, 1, 22, 23, 24, 25, 26] (by decide +kernel) (by decide +kernel)) (goodIn_sub (fun _ h => List.mem_cons_of_mem _ (List.mem_append_right _ h)) (by decide +kernel))
set_option maxRecDepth 20000 in
theorem gX1_addClass_X1_aboveOrNothing : GoodIn wsX1_addClass (wsV RX1 44 RX1 yX1_aboveOrNothing wsX1_aboveOrNothing) := goodIn_app (goodIn_of _ (by decide +kernel)) ggX1_addClass_X1_aboveOrNothing
set_option maxRecDepth 20000 in
theorem ggX1_addClass_X1_add : GoodIn wsX1_addClass wsX1_add := goodIn_ca (goodIn_r _ [10, 11, 1, 12, 13, 14, 5, 15, 16, 17, 18, 19, 20, 21, 22, 23, 24, 25, 26] (by decide +kernel) (by decide +kernel)) (goodIn_sub (fun _ h => List.mem_cons_of_mem _ (List.mem_append_right _ h)) (by decide +kernel))
set_option maxRecDepth 20000 in
theorem gX1_addClass_X1_add : GoodIn wsX1_addClass (wsV RX1 47 RX1 yX1_add wsX1_add) := goodIn_app (goodIn_of _ (by decide +kernel)) ggX1_addClass_X1_add
theorem dX1_addClass_0 : decode cX1_addClass 0 = .ok (.aload_n 0, 1) := by decide +kernel
theorem dX1_addClass_1 : decode cX1_addClass 1 = .ok (.iconst 1, 1) := by decide +kernel
theorem dX1_addClass_2 : decode cX1_addClass 2 = .ok (.iload_n 3, 1) := by decide +kernel
theorem dX1_addClass_3 : decode cX1_addClass 3 = .ok (.aload_n 0, 1) := by decide +kernel
theorem dX1_addClass_4 : decode cX1_addClass 4 = .ok (.getfield 22, 3) := by decide +kernel
theorem dX1_addClass_7 : decode cX1_addClass 7 = .ok (.iload_n 1, 1) := by decide +kernel
theorem dX1_addClass_8 : decode cX1_addClass 8 = .ok (.laload, 1) := by decide +kernel
theorem dX1_addClass_9 : decode cX1_addClass 9 = .ok (.aload_n 0, 1) := by decide +kernel
theorem dX1_addClass_10 : decode cX1_addClass 10 = .ok (.iload_n 2, 1) := by decide +kernel
theorem dX1_addClass_11 : decode cX1_addClass 11 = .ok (.invokevirtual 44, 3) := by decide +kernel
theorem dX1_addClass_14 : decode cX1_addClass 14 = .ok (.lor, 1) := by decide +kernel
theorem dX1_addClass_15 : decode cX1_addClass 15 = .ok (.invokevirtual 47, 3) := by decide +kernel
theorem dX1_addClass_18 : decode cX1_addClass 18 = .ok (.ireturn, 1) := by decide +kernel
set_option maxRecDepth 20000 in
theorem ggX1_addInterface_X1_aboveOrNothing : GoodIn wsX1_addInterface wsX1_aboveOrNothing := goodIn_ca (goodIn_r _ [6, 1, 22, 23, 24, 25, 26] (by decide +kernel) (by decide +kernel)) (goodIn_sub (fun _ h => List.mem_cons_of_mem _ (List.mem_append_right _ h)) (by decide +kernel))
set_option maxRecDepth 20000 in
theorem gX1_addInterface_X1_aboveOrNothing : GoodIn wsX1_addInterface (wsV RX1 44 RX1 yX1_aboveOrNothing wsX1_aboveOrNothing) := goodIn_app (goodIn_of _ (by decide +kernel)) ggX1_addInterface_X1_aboveOrNothing
set_option maxRecDepth 20000 in
theorem ggX1_addInterface_X1_add : GoodIn wsX1_addInterface wsX1_add := goodIn_ca (goodIn_r _ [10, 11, 1, 12, 13, 14, 5, 15, 16, 17, 18, 19, 20, 21, 22, 23, 24, 25, 26] (by decide +kernel) (by decide +kernel)) (goodIn_sub (fun _ h => List.mem_cons_of_mem _ (List.mem_append_right _ h)) (by decide +kernel))
set_option maxRecDepth 20000 in
theorem gX1_addInterface_X1_add : GoodIn wsX1_addInterface (wsV RX1 47 RX1 yX1_add wsX1_add) := goodIn_app (goodIn_of _ (by decide +kernel)) ggX1_addInterface_X1_add
theorem dX1_addInterface_0 : decode cX1_addInterface 0 = .ok (.aload_n 0, 1) := by decide +kernel
theorem dX1_addInterface_1 : decode cX1_addInterface 1 = .ok (.getfield 22, 3) := by decide +kernel
theorem dX1_addInterface_4 : decode cX1_addInterface 4 = .ok (.bipush 16, 2) := by decide +kernel
theorem dX1_addInterface_6 : decode cX1_addInterface 6 = .ok (.laload, 1) := by decide +kernel
theorem dX1_addInterface_7 : decode cX1_addInterface 7 = .ok (.aload_n 0, 1) := by decide +kernel
theorem dX1_addInterface_8 : decode cX1_addInterface 8 = .ok (.iload_n 1, 1) := by decide +kernel
theorem dX1_addInterface_9 : decode cX1_addInterface 9 = .ok (.invokevirtual 44, 3) := by decide +kernel
theorem dX1_addInterface_12 : decode cX1_addInterface 12 = .ok (.lor, 1) := by decide +kernel
theorem dX1_addInterface_13 : decode cX1_addInterface 13 = .ok (.aload_n 0, 1) := by decide +kernel
theorem dX1_addInterface_14 : decode cX1_addInterface 14 = .ok (.iload_n 2, 1) := by decide +kernel
theorem dX1_addInterface_15 : decode cX1_addInterface 15 = .ok (.invokevirtual 44, 3) := by decide +kernel
theorem dX1_addInterface_18 : decode cX1_addInterface 18 = .ok (.lor, 1) := by decide +kernel
theorem dX1_addInterface_19 : decode cX1_addInterface 19 = .ok (.lstore_n 3, 1) := by decide +kernel
theorem dX1_addInterface_20 : decode cX1_addInterface 20 = .ok (.aload_n 0, 1) := by decide +kernel
theorem dX1_addInterface_21 : decode cX1_addInterface 21 = .ok (.iconst 2, 1) := by decide +kernel
theorem dX1_addInterface_22 : decode cX1_addInterface 22 = .ok (.iconst 0, 1) := by decide +kernel
theorem dX1_addInterface_23 : decode cX1_addInterface 23 = .ok (.lload_n 3, 1) := by decide +kernel
theorem dX1_addInterface_24 : decode cX1_addInterface 24 = .ok (.invokevirtual 47, 3) := by decide +kernel
theorem dX1_addInterface_27 : decode cX1_addInterface 27 = .ok (.ireturn, 1) := by decide +kernel
set_option maxRecDepth 20000 in
theorem ggX1_addArray_X1_add : GoodIn wsX1_addArray wsX1_add := goodIn_ca (goodIn_r _ [8, 9, 1, 10, 11, 12, 7, 13, 3, 14, 2, 15, 16, 17, 26, 27, 28, 29, 30] (by decide +kernel) (by decide +kernel)) (goodIn_sub (fun _ h => List.mem_cons_of_mem _ (List.mem_append_right _ h)) (by decide +kernel))
set_option maxRecDepth 20000 in
theorem gX1_addArray_X1_add : GoodIn wsX1_addArray (wsV RX1 47 RX1 yX1_add wsX1_add) := goodIn_app (goodIn_of _ (by decide +kernel)) ggX1_addArray_X1_add
set_option maxRecDepth 20000 in
theorem ggX1_addArray_X1_placeArrays : GoodIn wsX1_addArray wsX1_placeArrays := goodIn_ca (goodIn_r _ [21, 2, 1, 22, 23, 24, 7, 25, 15, 16, 17, 26, 27, 28, 29, 30] (by decide +kernel) (by decide +kernel)) (goodIn_sub (fun _ h => List.mem_cons_of_mem _ (List.mem_append_right _ h)) (by decide +kernel))
set_option maxRecDepth 20000 in
theorem gX1_addArray_X1_placeArrays : GoodIn wsX1_addArray (wsV RX1 51 RX1 yX1_placeArrays wsX1_placeArrays) := goodIn_app (goodIn_of _ (by decide +kernel)) ggX1_addArray_X1_placeArrays
theorem dX1_addArray_0 : decode cX1_addArray 0 = .ok (.aload_n 0, 1) := by decide +kernel
theorem dX1_addArray_1 : decode cX1_addArray 1 = .ok (.iconst 3, 1) := by decide +kernel
theorem dX1_addArray_2 : decode cX1_addArray 2 = .ok (.iconst 0, 1) := by decide +kernel
theorem dX1_addArray_3 : decode cX1_addArray 3 = .ok (.aload_n 0, 1) := by decide +kernel
theorem dX1_addArray_4 : decode cX1_addArray 4 = .ok (.getfield 22, 3) := by decide +kernel
theorem dX1_addArray_7 : decode cX1_addArray 7 = .ok (.bipush 20, 2) := by decide +kernel
theorem dX1_addArray_9 : decode cX1_addArray 9 = .ok (.laload, 1) := by decide +kernel
theorem dX1_addArray_10 : decode cX1_addArray 10 = .ok (.aload_n 0, 1) := by decide +kernel
theorem dX1_addArray_11 : decode cX1_addArray 11 = .ok (.getfield 22, 3) := by decide +kernel
theorem dX1_addArray_14 : decode cX1_addArray 14 = .ok (.bipush 19, 2) := by decide +kernel
theorem dX1_addArray_16 : decode cX1_addArray 16 = .ok (.laload, 1) := by decide +kernel
theorem dX1_addArray_17 : decode cX1_addArray 17 = .ok (.lor, 1) := by decide +kernel
theorem dX1_addArray_18 : decode cX1_addArray 18 = .ok (.invokevirtual 47, 3) := by decide +kernel
theorem dX1_addArray_21 : decode cX1_addArray 21 = .ok (.istore_n 2, 1) := by decide +kernel
theorem dX1_addArray_22 : decode cX1_addArray 22 = .ok (.aload_n 0, 1) := by decide +kernel
theorem dX1_addArray_23 : decode cX1_addArray 23 = .ok (.getfield 19, 3) := by decide +kernel
theorem dX1_addArray_26 : decode cX1_addArray 26 = .ok (.iload_n 2, 1) := by decide +kernel
theorem dX1_addArray_27 : decode cX1_addArray 27 = .ok (.iload_n 1, 1) := by decide +kernel
theorem dX1_addArray_28 : decode cX1_addArray 28 = .ok (.iastore, 1) := by decide +kernel
theorem dX1_addArray_29 : decode cX1_addArray 29 = .ok (.bipush 23, 2) := by decide +kernel
theorem dX1_addArray_31 : decode cX1_addArray 31 = .ok (.istore_n 3, 1) := by decide +kernel
theorem dX1_addArray_32 : decode cX1_addArray 32 = .ok (.iload_n 3, 1) := by decide +kernel
theorem dX1_addArray_33 : decode cX1_addArray 33 = .ok (.iload_n 2, 1) := by decide +kernel
theorem dX1_addArray_34 : decode cX1_addArray 34 = .ok (.if_icmp .ge 25, 3) := by decide +kernel
theorem dX1_addArray_37 : decode cX1_addArray 37 = .ok (.aload_n 0, 1) := by decide +kernel
theorem dX1_addArray_38 : decode cX1_addArray 38 = .ok (.getfield 9, 3) := by decide +kernel
theorem dX1_addArray_41 : decode cX1_addArray 41 = .ok (.iload_n 3, 1) := by decide +kernel
theorem dX1_addArray_42 : decode cX1_addArray 42 = .ok (.iaload, 1) := by decide +kernel
theorem dX1_addArray_43 : decode cX1_addArray 43 = .ok (.iconst 3, 1) := by decide +kernel
theorem dX1_addArray_44 : decode cX1_addArray 44 = .ok (.if_icmp .ne 9, 3) := by decide +kernel
theorem dX1_addArray_47 : decode cX1_addArray 47 = .ok (.aload_n 0, 1) := by decide +kernel
theorem dX1_addArray_48 : decode cX1_addArray 48 = .ok (.iload_n 2, 1) := by decide +kernel
theorem dX1_addArray_49 : decode cX1_addArray 49 = .ok (.iload_n 3, 1) := by decide +kernel
theorem dX1_addArray_50 : decode cX1_addArray 50 = .ok (.invokevirtual 51, 3) := by decide +kernel
theorem dX1_addArray_53 : decode cX1_addArray 53 = .ok (.iinc 3 1, 3) := by decide +kernel
theorem dX1_addArray_56 : decode cX1_addArray 56 = .ok (.goto (-24), 3) := by decide +kernel
theorem dX1_addArray_59 : decode cX1_addArray 59 = .ok (.iload_n 2, 1) := by decide +kernel
theorem dX1_addArray_60 : decode cX1_addArray 60 = .ok (.ireturn, 1) := by decide +kernel
set_option maxRecDepth 20000 in
theorem ggX1_placeArrays_X1_isUnder : GoodIn wsX1_placeArrays wsX1_isUnder := goodIn_ca (goodIn_r _ [7, 2, 8, 9, 6, 10, 11, 12, 13, 14, 15] (by decide +kernel) (by decide +kernel)) (goodIn_sub (fun _ h => List.mem_cons_of_mem _ (List.mem_append_right _ h)) (by decide +kernel))
set_option maxRecDepth 20000 in
theorem gX1_placeArrays_X1_isUnder : GoodIn wsX1_placeArrays (wsV RX1 55 RX1 yX1_isUnder wsX1_isUnder) := goodIn_app (goodIn_of _ (by decide +kernel)) ggX1_placeArrays_X1_isUnder
set_option maxRecDepth 20000 in
theorem ggX1_placeArrays_X1_bit : GoodIn wsX1_placeArrays wsX1_bit := goodIn_r _ [10] (by decide +kernel) (by decide +kernel)
set_option maxRecDepth 20000 in
theorem gX1_placeArrays_X1_bit : GoodIn wsX1_placeArrays (va_wsS RX1 34 yX1_bit wsX1_bit) := goodIn_app (goodIn_of _ (by decide +kernel)) ggX1_placeArrays_X1_bit
theorem dX1_placeArrays_0 : decode cX1_placeArrays 0 = .ok (.aload_n 0, 1) := by decide +kernel
theorem dX1_placeArrays_1 : decode cX1_placeArrays 1 = .ok (.aload_n 0, 1) := by decide +kernel
theorem dX1_placeArrays_2 : decode cX1_placeArrays 2 = .ok (.getfield 19, 3) := by decide +kernel
theorem dX1_placeArrays_5 : decode cX1_placeArrays 5 = .ok (.iload_n 1, 1) := by decide +kernel
theorem dX1_placeArrays_6 : decode cX1_placeArrays 6 = .ok (.iaload, 1) := by decide +kernel
theorem dX1_placeArrays_7 : decode cX1_placeArrays 7 = .ok (.aload_n 0, 1) := by decide +kernel
theorem dX1_placeArrays_8 : decode cX1_placeArrays 8 = .ok (.getfield 19, 3) := by decide +kernel
theorem dX1_placeArrays_11 : decode cX1_placeArrays 11 = .ok (.iload_n 2, 1) := by decide +kernel
theorem dX1_placeArrays_12 : decode cX1_placeArrays 12 = .ok (.iaload, 1) := by decide +kernel
theorem dX1_placeArrays_13 : decode cX1_placeArrays 13 = .ok (.invokevirtual 55, 3) := by decide +kernel
theorem dX1_placeArrays_16 : decode cX1_placeArrays 16 = .ok (.ifCond .eq 16, 3) := by decide +kernel
theorem dX1_placeArrays_19 : decode cX1_placeArrays 19 = .ok (.aload_n 0, 1) := by decide +kernel
theorem dX1_placeArrays_20 : decode cX1_placeArrays 20 = .ok (.getfield 22, 3) := by decide +kernel
theorem dX1_placeArrays_23 : decode cX1_placeArrays 23 = .ok (.iload_n 1, 1) := by decide +kernel
theorem dX1_placeArrays_24 : decode cX1_placeArrays 24 = .ok (.dup2, 1) := by decide +kernel
theorem dX1_placeArrays_25 : decode cX1_placeArrays 25 = .ok (.laload, 1) := by decide +kernel
theorem dX1_placeArrays_26 : decode cX1_placeArrays 26 = .ok (.iload_n 2, 1) := by decide +kernel
theorem dX1_placeArrays_27 : decode cX1_placeArrays 27 = .ok (.invokestatic 34, 3) := by decide +kernel
theorem dX1_placeArrays_30 : decode cX1_placeArrays 30 = .ok (.lor, 1) := by decide +kernel
theorem dX1_placeArrays_31 : decode cX1_placeArrays 31 = .ok (.lastore, 1) := by decide +kernel
theorem dX1_placeArrays_32 : decode cX1_placeArrays 32 = .ok (.aload_n 0, 1) := by decide +kernel
theorem dX1_placeArrays_33 : decode cX1_placeArrays 33 = .ok (.aload_n 0, 1) := by decide +kernel
theorem dX1_placeArrays_34 : decode cX1_placeArrays 34 = .ok (.getfield 19, 3) := by decide +kernel
theorem dX1_placeArrays_37 : decode cX1_placeArrays 37 = .ok (.iload_n 2, 1) := by decide +kernel
theorem dX1_placeArrays_38 : decode cX1_placeArrays 38 = .ok (.iaload, 1) := by decide +kernel
theorem dX1_placeArrays_39 : decode cX1_placeArrays 39 = .ok (.aload_n 0, 1) := by decide +kernel
theorem dX1_placeArrays_40 : decode cX1_placeArrays 40 = .ok (.getfield 19, 3) := by decide +kernel
theorem dX1_placeArrays_43 : decode cX1_placeArrays 43 = .ok (.iload_n 1, 1) := by decide +kernel
theorem dX1_placeArrays_44 : decode cX1_placeArrays 44 = .ok (.iaload, 1) := by decide +kernel
theorem dX1_placeArrays_45 : decode cX1_placeArrays 45 = .ok (.invokevirtual 55, 3) := by decide +kernel
theorem dX1_placeArrays_48 : decode cX1_placeArrays 48 = .ok (.ifCond .eq 16, 3) := by decide +kernel
theorem dX1_placeArrays_51 : decode cX1_placeArrays 51 = .ok (.aload_n 0, 1) := by decide +kernel
theorem dX1_placeArrays_52 : decode cX1_placeArrays 52 = .ok (.getfield 22, 3) := by decide +kernel
theorem dX1_placeArrays_55 : decode cX1_placeArrays 55 = .ok (.iload_n 2, 1) := by decide +kernel
theorem dX1_placeArrays_56 : decode cX1_placeArrays 56 = .ok (.dup2, 1) := by decide +kernel
theorem dX1_placeArrays_57 : decode cX1_placeArrays 57 = .ok (.laload, 1) := by decide +kernel
theorem dX1_placeArrays_58 : decode cX1_placeArrays 58 = .ok (.iload_n 1, 1) := by decide +kernel
theorem dX1_placeArrays_59 : decode cX1_placeArrays 59 = .ok (.invokestatic 34, 3) := by decide +kernel
theorem dX1_placeArrays_62 : decode cX1_placeArrays 62 = .ok (.lor, 1) := by decide +kernel
theorem dX1_placeArrays_63 : decode cX1_placeArrays 63 = .ok (.lastore, 1) := by decide +kernel
theorem dX1_placeArrays_64 : decode cX1_placeArrays 64 = .ok (.return_, 1) := by decide +kernel
set_option maxRecDepth 20000 in
theorem ggX1_add_X1_setKnown : GoodIn wsX1_add wsX1_setKnown := goodIn_ca (goodIn_r _ [7, 8, 9, 10, 2, 11, 12, 6, 13, 14, 15, 16, 17, 18] (by decide +kernel) (by decide +kernel)) (goodIn_sub (fun _ h => List.mem_cons_of_mem _ (List.mem_append_right _ h)) (by decide +kernel))
set_option maxRecDepth 20000 in
theorem gX1_add_X1_setKnown : GoodIn wsX1_add (wsV RX1 30 RX1 yX1_setKnown wsX1_setKnown) := goodIn_app (goodIn_of _ (by decide +kernel)) ggX1_add_X1_setKnown
set_option maxRecDepth 20000 in
theorem ggX1_add_X1_bit : GoodIn wsX1_add wsX1_bit := goodIn_r _ [13] (by decide +kernel) (by decide +kernel)
set_option maxRecDepth 20000 in
theorem gX1_add_X1_bit : GoodIn wsX1_add (va_wsS RX1 34 yX1_bit wsX1_bit) := goodIn_app (goodIn_of _ (by decide +kernel)) ggX1_add_X1_bit
theorem dX1_add_0 : decode cX1_add 0 = .ok (.aload_n 0, 1) := by decide +kernel
theorem dX1_add_1 : decode cX1_add 1 = .ok (.getfield 26, 3) := by decide +kernel
theorem dX1_add_4 : decode cX1_add 4 = .ok (.istore 5, 2) := by decide +kernel
theorem dX1_add_6 : decode cX1_add 6 = .ok (.aload_n 0, 1) := by decide +kernel
theorem dX1_add_7 : decode cX1_add 7 = .ok (.iload 5, 2) := by decide +kernel
theorem dX1_add_9 : decode cX1_add 9 = .ok (.iload_n 1, 1) := by decide +kernel
theorem dX1_add_10 : decode cX1_add 10 = .ok (.iload_n 2, 1) := by decide +kernel
theorem dX1_add_11 : decode cX1_add 11 = .ok (.lload_n 3, 1) := by decide +kernel
theorem dX1_add_12 : decode cX1_add 12 = .ok (.invokevirtual 30, 3) := by decide +kernel
theorem dX1_add_15 : decode cX1_add 15 = .ok (.aload_n 0, 1) := by decide +kernel
theorem dX1_add_16 : decode cX1_add 16 = .ok (.getfield 22, 3) := by decide +kernel
theorem dX1_add_19 : decode cX1_add 19 = .ok (.bipush 22, 2) := by decide +kernel
theorem dX1_add_21 : decode cX1_add 21 = .ok (.dup2, 1) := by decide +kernel
theorem dX1_add_22 : decode cX1_add 22 = .ok (.laload, 1) := by decide +kernel
theorem dX1_add_23 : decode cX1_add 23 = .ok (.iload 5, 2) := by decide +kernel
theorem dX1_add_25 : decode cX1_add 25 = .ok (.invokestatic 34, 3) := by decide +kernel
theorem dX1_add_28 : decode cX1_add 28 = .ok (.lor, 1) := by decide +kernel
theorem dX1_add_29 : decode cX1_add 29 = .ok (.lastore, 1) := by decide +kernel
theorem dX1_add_30 : decode cX1_add 30 = .ok (.aload_n 0, 1) := by decide +kernel
theorem dX1_add_31 : decode cX1_add 31 = .ok (.dup, 1) := by decide +kernel
theorem dX1_add_32 : decode cX1_add 32 = .ok (.getfield 26, 3) := by decide +kernel
theorem dX1_add_35 : decode cX1_add 35 = .ok (.iconst 1, 1) := by decide +kernel
theorem dX1_add_36 : decode cX1_add 36 = .ok (.iadd, 1) := by decide +kernel
theorem dX1_add_37 : decode cX1_add 37 = .ok (.putfield 26, 3) := by decide +kernel
theorem dX1_add_40 : decode cX1_add 40 = .ok (.iload 5, 2) := by decide +kernel
theorem dX1_add_42 : decode cX1_add 42 = .ok (.ireturn, 1) := by decide +kernel
theorem dX1_aboveOrNothing_0 : decode cX1_aboveOrNothing 0 = .ok (.iload_n 1, 1) := by decide +kernel
theorem dX1_aboveOrNothing_1 : decode cX1_aboveOrNothing 1 = .ok (.iconst (-1), 1) := by decide +kernel
theorem dX1_aboveOrNothing_2 : decode cX1_aboveOrNothing 2 = .ok (.if_icmp .ne 7, 3) := by decide +kernel
theorem dX1_aboveOrNothing_5 : decode cX1_aboveOrNothing 5 = .ok (.lconst 0, 1) := by decide +kernel
theorem dX1_aboveOrNothing_6 : decode cX1_aboveOrNothing 6 = .ok (.goto 9, 3) := by decide +kernel
theorem dX1_aboveOrNothing_9 : decode cX1_aboveOrNothing 9 = .ok (.aload_n 0, 1) := by decide +kernel
theorem dX1_aboveOrNothing_10 : decode cX1_aboveOrNothing 10 = .ok (.getfield 22, 3) := by decide +kernel
theorem dX1_aboveOrNothing_13 : decode cX1_aboveOrNothing 13 = .ok (.iload_n 1, 1) := by decide +kernel
theorem dX1_aboveOrNothing_14 : decode cX1_aboveOrNothing 14 = .ok (.laload, 1) := by decide +kernel
theorem dX1_aboveOrNothing_15 : decode cX1_aboveOrNothing 15 = .ok (.lreturn, 1) := by decide +kernel
set_option maxRecDepth 20000 in
theorem ggX1_goesDown_X1_isArrayOfReferences : GoodIn wsX1_goesDown wsX1_isArrayOfReferences := goodIn_ca (goodIn_r _ [6, 7, 1, 25, 26, 27, 28, 29] (by decide +kernel) (by decide +kernel)) (goodIn_sub (fun _ h => List.mem_cons_of_mem _ (List.mem_append_right _ h)) (by decide +kernel))
set_option maxRecDepth 20000 in
theorem gX1_goesDown_X1_isArrayOfReferences : GoodIn wsX1_goesDown (wsV RX1 59 RX1 yX1_isArrayOfReferences wsX1_isArrayOfReferences) := goodIn_app (goodIn_of _ (by decide +kernel)) ggX1_goesDown_X1_isArrayOfReferences
set_option maxRecDepth 20000 in
theorem ggX1_goesDown_X1_isUnder : GoodIn wsX1_goesDown wsX1_isUnder := goodIn_ca (goodIn_r _ [11, 12, 13, 14, 5, 15, 25, 26, 27, 28, 29] (by decide +kernel) (by decide +kernel)) (goodIn_sub (fun _ h => List.mem_cons_of_mem _ (List.mem_append_right _ h)) (by decide +kernel))
set_option maxRecDepth 20000 in
theorem gX1_goesDown_X1_isUnder : GoodIn wsX1_goesDown (wsV RX1 55 RX1 yX1_isUnder wsX1_isUnder) := goodIn_app (goodIn_of _ (by decide +kernel)) ggX1_goesDown_X1_isUnder
set_option maxRecDepth 20000 in
theorem ggX1_goesDown_X1_mayShareObjects : GoodIn wsX1_goesDown wsX1_mayShareObjects := goodIn_ca (goodIn_r _ [19, 7, 20, 21, 22, 5, 23, 24, 25, 26, 27, 28, 29] (by decide +kernel) (by decide +kernel)) (goodIn_sub (fun _ h => List.mem_cons_of_mem _ (List.mem_append_right _ h)) (by decide +kernel))
set_option maxRecDepth 20000 in
theorem gX1_goesDown_X1_mayShareObjects : GoodIn wsX1_goesDown (wsV RX1 63 RX1 yX1_mayShareObjects wsX1_mayShareObjects) := goodIn_app (goodIn_of _ (by decide +kernel)) ggX1_goesDown_X1_mayShareObjects
theorem dX1_goesDown_0 : decode cX1_goesDown 0 = .ok (.iload_n 1, 1) := by decide +kernel
theorem dX1_goesDown_1 : decode cX1_goesDown 1 = .ok (.istore_n 3, 1) := by decide +kernel
theorem dX1_goesDown_2 : decode cX1_goesDown 2 = .ok (.iload_n 2, 1) := by decide +kernel
theorem dX1_goesDown_3 : decode cX1_goesDown 3 = .ok (.istore 4, 2) := by decide +kernel
theorem dX1_goesDown_5 : decode cX1_goesDown 5 = .ok (.iconst 0, 1) := by decide +kernel
theorem dX1_goesDown_6 : decode cX1_goesDown 6 = .ok (.istore 5, 2) := by decide +kernel
theorem dX1_goesDown_8 : decode cX1_goesDown 8 = .ok (.iload 5, 2) := by decide +kernel
theorem dX1_goesDown_10 : decode cX1_goesDown 10 = .ok (.bipush 40, 2) := by decide +kernel
theorem dX1_goesDown_12 : decode cX1_goesDown 12 = .ok (.if_icmp .ge 45, 3) := by decide +kernel
theorem dX1_goesDown_15 : decode cX1_goesDown 15 = .ok (.aload_n 0, 1) := by decide +kernel
theorem dX1_goesDown_16 : decode cX1_goesDown 16 = .ok (.iload_n 3, 1) := by decide +kernel
theorem dX1_goesDown_17 : decode cX1_goesDown 17 = .ok (.invokevirtual 59, 3) := by decide +kernel
theorem dX1_goesDown_20 : decode cX1_goesDown 20 = .ok (.ifCond .eq 37, 3) := by decide +kernel
theorem dX1_goesDown_23 : decode cX1_goesDown 23 = .ok (.aload_n 0, 1) := by decide +kernel
theorem dX1_goesDown_24 : decode cX1_goesDown 24 = .ok (.iload 4, 2) := by decide +kernel
theorem dX1_goesDown_26 : decode cX1_goesDown 26 = .ok (.invokevirtual 59, 3) := by decide +kernel
theorem dX1_goesDown_29 : decode cX1_goesDown 29 = .ok (.ifCond .ne 6, 3) := by decide +kernel
theorem dX1_goesDown_32 : decode cX1_goesDown 32 = .ok (.goto 25, 3) := by decide +kernel
theorem dX1_goesDown_35 : decode cX1_goesDown 35 = .ok (.aload_n 0, 1) := by decide +kernel
theorem dX1_goesDown_36 : decode cX1_goesDown 36 = .ok (.getfield 19, 3) := by decide +kernel
theorem dX1_goesDown_39 : decode cX1_goesDown 39 = .ok (.iload_n 3, 1) := by decide +kernel
theorem dX1_goesDown_40 : decode cX1_goesDown 40 = .ok (.iaload, 1) := by decide +kernel
theorem dX1_goesDown_41 : decode cX1_goesDown 41 = .ok (.istore_n 3, 1) := by decide +kernel
theorem dX1_goesDown_42 : decode cX1_goesDown 42 = .ok (.aload_n 0, 1) := by decide +kernel
theorem dX1_goesDown_43 : decode cX1_goesDown 43 = .ok (.getfield 19, 3) := by decide +kernel
theorem dX1_goesDown_46 : decode cX1_goesDown 46 = .ok (.iload 4, 2) := by decide +kernel
theorem dX1_goesDown_48 : decode cX1_goesDown 48 = .ok (.iaload, 1) := by decide +kernel
theorem dX1_goesDown_49 : decode cX1_goesDown 49 = .ok (.istore 4, 2) := by decide +kernel
theorem dX1_goesDown_51 : decode cX1_goesDown 51 = .ok (.iinc 5 1, 3) := by decide +kernel
theorem dX1_goesDown_54 : decode cX1_goesDown 54 = .ok (.goto (-46), 3) := by decide +kernel
theorem dX1_goesDown_57 : decode cX1_goesDown 57 = .ok (.iload_n 3, 1) := by decide +kernel
theorem dX1_goesDown_58 : decode cX1_goesDown 58 = .ok (.bipush 22, 2) := by decide +kernel
theorem dX1_goesDown_60 : decode cX1_goesDown 60 = .ok (.if_icmp .eq 20, 3) := by decide +kernel
theorem dX1_goesDown_63 : decode cX1_goesDown 63 = .ok (.iload 4, 2) := by decide +kernel
theorem dX1_goesDown_65 : decode cX1_goesDown 65 = .ok (.bipush 22, 2) := by decide +kernel
theorem dX1_goesDown_67 : decode cX1_goesDown 67 = .ok (.if_icmp .eq 13, 3) := by decide +kernel
theorem dX1_goesDown_70 : decode cX1_goesDown 70 = .ok (.aload_n 0, 1) := by decide +kernel
theorem dX1_goesDown_71 : decode cX1_goesDown 71 = .ok (.iload_n 3, 1) := by decide +kernel
theorem dX1_goesDown_72 : decode cX1_goesDown 72 = .ok (.iload 4, 2) := by decide +kernel
theorem dX1_goesDown_74 : decode cX1_goesDown 74 = .ok (.invokevirtual 55, 3) := by decide +kernel
theorem dX1_goesDown_77 : decode cX1_goesDown 77 = .ok (.ifCond .eq 5, 3) := by decide +kernel
theorem dX1_goesDown_80 : decode cX1_goesDown 80 = .ok (.iconst 0, 1) := by decide +kernel
theorem dX1_goesDown_81 : decode cX1_goesDown 81 = .ok (.ireturn, 1) := by decide +kernel
theorem dX1_goesDown_82 : decode cX1_goesDown 82 = .ok (.aload_n 0, 1) := by decide +kernel
theorem dX1_goesDown_83 : decode cX1_goesDown 83 = .ok (.iload 4, 2) := by decide +kernel
theorem dX1_goesDown_85 : decode cX1_goesDown 85 = .ok (.iload_n 3, 1) := by decide +kernel
theorem dX1_goesDown_86 : decode cX1_goesDown 86 = .ok (.invokevirtual 55, 3) := by decide +kernel
theorem dX1_goesDown_89 : decode cX1_goesDown 89 = .ok (.ifCond .ne 13, 3) := by decide +kernel
theorem dX1_goesDown_92 : decode cX1_goesDown 92 = .ok (.aload_n 0, 1) := by decide +kernel
theorem dX1_goesDown_93 : decode cX1_goesDown 93 = .ok (.iload_n 3, 1) := by decide +kernel
theorem dX1_goesDown_94 : decode cX1_goesDown 94 = .ok (.iload 4, 2) := by decide +kernel
theorem dX1_goesDown_96 : decode cX1_goesDown 96 = .ok (.invokevirtual 63, 3) := by decide +kernel
theorem dX1_goesDown_99 : decode cX1_goesDown 99 = .ok (.ifCond .eq 7, 3) := by decide +kernel
theorem dX1_goesDown_102 : decode cX1_goesDown 102 = .ok (.iconst 1, 1) := by decide +kernel
theorem dX1_goesDown_103 : decode cX1_goesDown 103 = .ok (.goto 4, 3) := by decide +kernel
theorem dX1_goesDown_106 : decode cX1_goesDown 106 = .ok (.iconst 0, 1) := by decide +kernel
theorem dX1_goesDown_107 : decode cX1_goesDown 107 = .ok (.ireturn, 1) := by decide +kernel
theorem dX1_isArrayOfReferences_0 : decode cX1_isArrayOfReferences 0 = .ok (.aload_n 0, 1) := by decide +kernel
theorem dX1_isArrayOfReferences_1 : decode cX1_isArrayOfReferences 1 = .ok (.getfield 9, 3) := by decide +kernel
theorem dX1_isArrayOfReferences_4 : decode cX1_isArrayOfReferences 4 = .ok (.iload_n 1, 1) := by decide +kernel
theorem dX1_isArrayOfReferences_5 : decode cX1_isArrayOfReferences 5 = .ok (.iaload, 1) := by decide +kernel
theorem dX1_isArrayOfReferences_6 : decode cX1_isArrayOfReferences 6 = .ok (.iconst 3, 1) := by decide +kernel
theorem dX1_isArrayOfReferences_7 : decode cX1_isArrayOfReferences 7 = .ok (.if_icmp .ne 18, 3) := by decide +kernel
theorem dX1_isArrayOfReferences_10 : decode cX1_isArrayOfReferences 10 = .ok (.aload_n 0, 1) := by decide +kernel
theorem dX1_isArrayOfReferences_11 : decode cX1_isArrayOfReferences 11 = .ok (.getfield 19, 3) := by decide +kernel
theorem dX1_isArrayOfReferences_14 : decode cX1_isArrayOfReferences 14 = .ok (.iload_n 1, 1) := by decide +kernel
theorem dX1_isArrayOfReferences_15 : decode cX1_isArrayOfReferences 15 = .ok (.iaload, 1) := by decide +kernel
theorem dX1_isArrayOfReferences_16 : decode cX1_isArrayOfReferences 16 = .ok (.bipush 7, 2) := by decide +kernel
theorem dX1_isArrayOfReferences_18 : decode cX1_isArrayOfReferences 18 = .ok (.if_icmp .le 7, 3) := by decide +kernel
theorem dX1_isArrayOfReferences_21 : decode cX1_isArrayOfReferences 21 = .ok (.iconst 1, 1) := by decide +kernel
theorem dX1_isArrayOfReferences_22 : decode cX1_isArrayOfReferences 22 = .ok (.goto 4, 3) := by decide +kernel
theorem dX1_isArrayOfReferences_25 : decode cX1_isArrayOfReferences 25 = .ok (.iconst 0, 1) := by decide +kernel
theorem dX1_isArrayOfReferences_26 : decode cX1_isArrayOfReferences 26 = .ok (.ireturn, 1) := by decide +kernel
set_option maxRecDepth 20000 in
theorem ggX1_mayShareObjects_X1_isOpenClass : GoodIn wsX1_mayShareObjects wsX1_isOpenClass := goodIn_ca (goodIn_r _ [6, 1, 7, 8, 9, 10, 11, 12] (by decide +kernel) (by decide +kernel)) (goodIn_sub (fun _ h => List.mem_cons_of_mem _ (List.mem_append_right _ h)) (by decide +kernel))
set_option maxRecDepth 20000 in
theorem gX1_mayShareObjects_X1_isOpenClass : GoodIn wsX1_mayShareObjects (wsV RX1 66 RX1 yX1_isOpenClass wsX1_isOpenClass) := goodIn_app (goodIn_of _ (by decide +kernel)) ggX1_mayShareObjects_X1_isOpenClass
theorem dX1_mayShareObjects_0 : decode cX1_mayShareObjects 0 = .ok (.aload_n 0, 1) := by decide +kernel
theorem dX1_mayShareObjects_1 : decode cX1_mayShareObjects 1 = .ok (.getfield 9, 3) := by decide +kernel
theorem dX1_mayShareObjects_4 : decode cX1_mayShareObjects 4 = .ok (.iload_n 1, 1) := by decide +kernel
theorem dX1_mayShareObjects_5 : decode cX1_mayShareObjects 5 = .ok (.iaload, 1) := by decide +kernel
theorem dX1_mayShareObjects_6 : decode cX1_mayShareObjects 6 = .ok (.iconst 2, 1) := by decide +kernel
theorem dX1_mayShareObjects_7 : decode cX1_mayShareObjects 7 = .ok (.if_icmp .ne 27, 3) := by decide +kernel
theorem dX1_mayShareObjects_10 : decode cX1_mayShareObjects 10 = .ok (.aload_n 0, 1) := by decide +kernel
theorem dX1_mayShareObjects_11 : decode cX1_mayShareObjects 11 = .ok (.getfield 9, 3) := by decide +kernel
theorem dX1_mayShareObjects_14 : decode cX1_mayShareObjects 14 = .ok (.iload_n 2, 1) := by decide +kernel
theorem dX1_mayShareObjects_15 : decode cX1_mayShareObjects 15 = .ok (.iaload, 1) := by decide +kernel
theorem dX1_mayShareObjects_16 : decode cX1_mayShareObjects 16 = .ok (.iconst 2, 1) := by decide +kernel
theorem dX1_mayShareObjects_17 : decode cX1_mayShareObjects 17 = .ok (.if_icmp .eq 11, 3) := by decide +kernel
theorem dX1_mayShareObjects_20 : decode cX1_mayShareObjects 20 = .ok (.aload_n 0, 1) := by decide +kernel
theorem dX1_mayShareObjects_21 : decode cX1_mayShareObjects 21 = .ok (.iload_n 2, 1) := by decide +kernel
theorem dX1_mayShareObjects_22 : decode cX1_mayShareObjects 22 = .ok (.invokevirtual 66, 3) := by decide +kernel
theorem dX1_mayShareObjects_25 : decode cX1_mayShareObjects 25 = .ok (.ifCond .eq 7, 3) := by decide +kernel
theorem dX1_mayShareObjects_28 : decode cX1_mayShareObjects 28 = .ok (.iconst 1, 1) := by decide +kernel
theorem dX1_mayShareObjects_29 : decode cX1_mayShareObjects 29 = .ok (.goto 4, 3) := by decide +kernel
theorem dX1_mayShareObjects_32 : decode cX1_mayShareObjects 32 = .ok (.iconst 0, 1) := by decide +kernel
theorem dX1_mayShareObjects_33 : decode cX1_mayShareObjects 33 = .ok (.ireturn, 1) := by decide +kernel
theorem dX1_mayShareObjects_34 : decode cX1_mayShareObjects 34 = .ok (.aload_n 0, 1) := by decide +kernel
theorem dX1_mayShareObjects_35 : decode cX1_mayShareObjects 35 = .ok (.getfield 9, 3) := by decide +kernel
theorem dX1_mayShareObjects_38 : decode cX1_mayShareObjects 38 = .ok (.iload_n 2, 1) := by decide +kernel
theorem dX1_mayShareObjects_39 : decode cX1_mayShareObjects 39 = .ok (.iaload, 1) := by decide +kernel
theorem dX1_mayShareObjects_40 : decode cX1_mayShareObjects 40 = .ok (.iconst 2, 1) := by decide +kernel
theorem dX1_mayShareObjects_41 : decode cX1_mayShareObjects 41 = .ok (.if_icmp .ne 15, 3) := by decide +kernel
theorem dX1_mayShareObjects_44 : decode cX1_mayShareObjects 44 = .ok (.aload_n 0, 1) := by decide +kernel
theorem dX1_mayShareObjects_45 : decode cX1_mayShareObjects 45 = .ok (.iload_n 1, 1) := by decide +kernel
theorem dX1_mayShareObjects_46 : decode cX1_mayShareObjects 46 = .ok (.invokevirtual 66, 3) := by decide +kernel
theorem dX1_mayShareObjects_49 : decode cX1_mayShareObjects 49 = .ok (.ifCond .eq 7, 3) := by decide +kernel
theorem dX1_mayShareObjects_52 : decode cX1_mayShareObjects 52 = .ok (.iconst 1, 1) := by decide +kernel
theorem dX1_mayShareObjects_53 : decode cX1_mayShareObjects 53 = .ok (.goto 4, 3) := by decide +kernel
theorem dX1_mayShareObjects_56 : decode cX1_mayShareObjects 56 = .ok (.iconst 0, 1) := by decide +kernel
theorem dX1_mayShareObjects_57 : decode cX1_mayShareObjects 57 = .ok (.ireturn, 1) := by decide +kernel
theorem dX1_isOpenClass_0 : decode cX1_isOpenClass 0 = .ok (.aload_n 0, 1) := by decide +kernel
theorem dX1_isOpenClass_1 : decode cX1_isOpenClass 1 = .ok (.getfield 9, 3) := by decide +kernel
theorem dX1_isOpenClass_4 : decode cX1_isOpenClass 4 = .ok (.iload_n 1, 1) := by decide +kernel
theorem dX1_isOpenClass_5 : decode cX1_isOpenClass 5 = .ok (.iaload, 1) := by decide +kernel
theorem dX1_isOpenClass_6 : decode cX1_isOpenClass 6 = .ok (.iconst 1, 1) := by decide +kernel
theorem dX1_isOpenClass_7 : decode cX1_isOpenClass 7 = .ok (.if_icmp .ne 16, 3) := by decide +kernel
theorem dX1_isOpenClass_10 : decode cX1_isOpenClass 10 = .ok (.aload_n 0, 1) := by decide +kernel
theorem dX1_isOpenClass_11 : decode cX1_isOpenClass 11 = .ok (.getfield 15, 3) := by decide +kernel
theorem dX1_isOpenClass_14 : decode cX1_isOpenClass 14 = .ok (.iload_n 1, 1) := by decide +kernel
theorem dX1_isOpenClass_15 : decode cX1_isOpenClass 15 = .ok (.baload, 1) := by decide +kernel
theorem dX1_isOpenClass_16 : decode cX1_isOpenClass 16 = .ok (.ifCond .ne 7, 3) := by decide +kernel
theorem dX1_isOpenClass_19 : decode cX1_isOpenClass 19 = .ok (.iconst 1, 1) := by decide +kernel
theorem dX1_isOpenClass_20 : decode cX1_isOpenClass 20 = .ok (.goto 4, 3) := by decide +kernel
theorem dX1_isOpenClass_23 : decode cX1_isOpenClass 23 = .ok (.iconst 0, 1) := by decide +kernel
theorem dX1_isOpenClass_24 : decode cX1_isOpenClass 24 = .ok (.ireturn, 1) := by decide +kernel
set_option maxRecDepth 20000 in
theorem ggX2_init_X1_init : GoodIn wsX2_init wsX1_init := goodIn_ca (goodIn_r _ [15, 16, 2, 3, 8, 17, 18, 19, 20, 10, 21, 22, 23, 24, 25, 6, 26, 27, 28, 29, 30, 31, 32, 33, 34] (by decide +kernel) (by decide +kernel)) (goodIn_sub (fun _ h => List.mem_cons_of_mem _ (List.mem_append_right _ h)) (by decide +kernel))
set_option maxRecDepth 20000 in
theorem gX2_init_X1_init : GoodIn wsX2_init (wsX1_init) := ggX2_init_X1_init
theorem dX2_init_0 : decode cX2_init 0 = .ok (.aload_n 0, 1) := by decide +kernel
theorem dX2_init_1 : decode cX2_init 1 = .ok (.invokespecial 3, 3) := by decide +kernel
theorem dX2_init_4 : decode cX2_init 4 = .ok (.aload_n 0, 1) := by decide +kernel
theorem dX2_init_5 : decode cX2_init 5 = .ok (.new 9, 3) := by decide +kernel
theorem dX2_init_8 : decode cX2_init 8 = .ok (.dup, 1) := by decide +kernel
theorem dX2_init_9 : decode cX2_init 9 = .ok (.invokespecial 11, 3) := by decide +kernel
theorem dX2_init_12 : decode cX2_init 12 = .ok (.putfield 12, 3) := by decide +kernel
theorem dX2_init_15 : decode cX2_init 15 = .ok (.aload_n 0, 1) := by decide +kernel
theorem dX2_init_16 : decode cX2_init 16 = .ok (.bipush 60, 2) := by decide +kernel
theorem dX2_init_18 : decode cX2_init 18 = .ok (.newarray .int, 2) := by decide +kernel
theorem dX2_init_20 : decode cX2_init 20 = .ok (.putfield 16, 3) := by decide +kernel
theorem dX2_init_23 : decode cX2_init 23 = .ok (.aload_n 0, 1) := by decide +kernel
theorem dX2_init_24 : decode cX2_init 24 = .ok (.bipush 60, 2) := by decide +kernel
theorem dX2_init_26 : decode cX2_init 26 = .ok (.newarray .long, 2) := by decide +kernel
theorem dX2_init_28 : decode cX2_init 28 = .ok (.putfield 20, 3) := by decide +kernel
theorem dX2_init_31 : decode cX2_init 31 = .ok (.aload_n 0, 1) := by decide +kernel
theorem dX2_init_32 : decode cX2_init 32 = .ok (.iconst 0, 1) := by decide +kernel
theorem dX2_init_33 : decode cX2_init 33 = .ok (.putfield 24, 3) := by decide +kernel
theorem dX2_init_36 : decode cX2_init 36 = .ok (.return_, 1) := by decide +kernel
set_option maxRecDepth 20000 in
theorem ggX2_newClass_X2_isTypeOrNone : GoodIn wsX2_newClass wsX2_isTypeOrNone := goodIn_ca (goodIn_r _ [6, 1, 7, 8, 9, 10, 11, 12, 52, 53, 54, 55, 56, 57, 58, 59, 60] (by decide +kernel) (by decide +kernel)) (goodIn_sub (fun _ h => List.mem_cons_of_mem _ (List.mem_append_right _ h)) (by decide +kernel))
set_option maxRecDepth 20000 in
theorem gX2_newClass_X2_isTypeOrNone : GoodIn wsX2_newClass (wsV RX2 28 RX2 yX2_isTypeOrNone wsX2_isTypeOrNone) := goodIn_app (goodIn_of _ (by decide +kernel)) ggX2_newClass_X2_isTypeOrNone
set_option maxRecDepth 20000 in
theorem ggX2_newClass_X1_mayHaveSubclass : GoodIn wsX2_newClass wsX1_mayHaveSubclass := goodIn_ca (goodIn_r _ [16, 17, 18, 56, 57, 58, 59, 60] (by decide +kernel) (by decide +kernel)) (goodIn_sub (fun _ h => List.mem_cons_of_mem _ (List.mem_append_right _ h)) (by decide +kernel))
set_option maxRecDepth 20000 in
theorem gX2_newClass_X1_mayHaveSubclass : GoodIn wsX2_newClass (wsV RX2 32 RX1 yX1_mayHaveSubclass wsX1_mayHaveSubclass) := goodIn_app (goodIn_of _ (by decide +kernel)) ggX2_newClass_X1_mayHaveSubclass
set_option maxRecDepth 20000 in
theorem ggX2_newClass_X2_isInterfaceOrNone : GoodIn wsX2_newClass wsX2_isInterfaceOrNone := goodIn_ca (goodIn_r _ [22, 1, 23, 24, 25, 10, 26, 17, 52, 53, 54, 55, 56, 57, 58, 59, 60] (by decide +kernel) (by decide +kernel)) (goodIn_sub (fun _ h => List.mem_cons_of_mem _ (List.mem_append_right _ h)) (by decide +kernel))
set_option maxRecDepth 20000 in
theorem gX2_newClass_X2_isInterfaceOrNone : GoodIn wsX2_newClass (wsV RX2 35 RX2 yX2_isInterfaceOrNone wsX2_isInterfaceOrNone) := goodIn_app (goodIn_of _ (by decide +kernel)) ggX2_newClass_X2_isInterfaceOrNone
set_option maxRecDepth 20000 in
theorem ggX2_newClass_X1_isFull : GoodIn wsX2_newClass wsX1_isFull := goodIn_r _ [30, 12, 56, 57, 58, 59, 60] (by decide +kernel) (by decide +kernel)
set_option maxRecDepth 20000 in
theorem gX2_newClass_X1_isFull : GoodIn wsX2_newClass (wsV RX2 38 RX1 yX1_isFull wsX1_isFull) := goodIn_app (goodIn_of _ (by decide +kernel)) ggX2_newClass_X1_isFull
set_option maxRecDepth 20000 in
theorem ggX2_newClass_X1_addClass : GoodIn wsX2_newClass wsX1_addClass := goodIn_ca (goodIn_r _ [34, 35, 36, 37, 38, 10, 39, 40, 41, 42, 43, 12, 44, 45, 46, 47, 17, 18, 48, 49, 50, 51, 56, 57, 58, 59, 60] (by decide +kernel) (by decide +kernel)) (goodIn_sub (fun _ h => List.mem_cons_of_mem _ (List.mem_append_right _ h)) (by decide +kernel))
set_option maxRecDepth 20000 in
theorem gX2_newClass_X1_addClass : GoodIn wsX2_newClass (wsV RX2 42 RX1 yX1_addClass wsX1_addClass) := goodIn_app (goodIn_of _ (by decide +kernel)) ggX2_newClass_X1_addClass
theorem dX2_newClass_0 : decode cX2_newClass 0 = .ok (.aload_n 0, 1) := by decide +kernel
theorem dX2_newClass_1 : decode cX2_newClass 1 = .ok (.iload_n 1, 1) := by decide +kernel
theorem dX2_newClass_2 : decode cX2_newClass 2 = .ok (.invokevirtual 28, 3) := by decide +kernel
theorem dX2_newClass_5 : decode cX2_newClass 5 = .ok (.ifCond .eq 11, 3) := by decide +kernel
theorem dX2_newClass_8 : decode cX2_newClass 8 = .ok (.aload_n 0, 1) := by decide +kernel
theorem dX2_newClass_9 : decode cX2_newClass 9 = .ok (.iload_n 2, 1) := by decide +kernel
theorem dX2_newClass_10 : decode cX2_newClass 10 = .ok (.invokevirtual 28, 3) := by decide +kernel
theorem dX2_newClass_13 : decode cX2_newClass 13 = .ok (.ifCond .ne 5, 3) := by decide +kernel
theorem dX2_newClass_16 : decode cX2_newClass 16 = .ok (.iconst (-1), 1) := by decide +kernel
theorem dX2_newClass_17 : decode cX2_newClass 17 = .ok (.ireturn, 1) := by decide +kernel
theorem dX2_newClass_18 : decode cX2_newClass 18 = .ok (.iload_n 1, 1) := by decide +kernel
theorem dX2_newClass_19 : decode cX2_newClass 19 = .ok (.iconst (-1), 1) := by decide +kernel
theorem dX2_newClass_20 : decode cX2_newClass 20 = .ok (.if_icmp .ne 8, 3) := by decide +kernel
theorem dX2_newClass_23 : decode cX2_newClass 23 = .ok (.bipush 16, 2) := by decide +kernel
theorem dX2_newClass_25 : decode cX2_newClass 25 = .ok (.goto 4, 3) := by decide +kernel
theorem dX2_newClass_28 : decode cX2_newClass 28 = .ok (.iload_n 1, 1) := by decide +kernel
theorem dX2_newClass_29 : decode cX2_newClass 29 = .ok (.istore 4, 2) := by decide +kernel
theorem dX2_newClass_31 : decode cX2_newClass 31 = .ok (.aload_n 0, 1) := by decide +kernel
theorem dX2_newClass_32 : decode cX2_newClass 32 = .ok (.getfield 12, 3) := by decide +kernel
theorem dX2_newClass_35 : decode cX2_newClass 35 = .ok (.iload 4, 2) := by decide +kernel
theorem dX2_newClass_37 : decode cX2_newClass 37 = .ok (.invokevirtual 32, 3) := by decide +kernel
theorem dX2_newClass_40 : decode cX2_newClass 40 = .ok (.ifCond .eq 11, 3) := by decide +kernel
theorem dX2_newClass_43 : decode cX2_newClass 43 = .ok (.aload_n 0, 1) := by decide +kernel
theorem dX2_newClass_44 : decode cX2_newClass 44 = .ok (.iload_n 2, 1) := by decide +kernel
theorem dX2_newClass_45 : decode cX2_newClass 45 = .ok (.invokevirtual 35, 3) := by decide +kernel
theorem dX2_newClass_48 : decode cX2_newClass 48 = .ok (.ifCond .ne 6, 3) := by decide +kernel
theorem dX2_newClass_51 : decode cX2_newClass 51 = .ok (.bipush (-2), 2) := by decide +kernel
theorem dX2_newClass_53 : decode cX2_newClass 53 = .ok (.ireturn, 1) := by decide +kernel
theorem dX2_newClass_54 : decode cX2_newClass 54 = .ok (.aload_n 0, 1) := by decide +kernel
theorem dX2_newClass_55 : decode cX2_newClass 55 = .ok (.getfield 12, 3) := by decide +kernel
theorem dX2_newClass_58 : decode cX2_newClass 58 = .ok (.invokevirtual 38, 3) := by decide +kernel
theorem dX2_newClass_61 : decode cX2_newClass 61 = .ok (.ifCond .eq 8, 3) := by decide +kernel
theorem dX2_newClass_64 : decode cX2_newClass 64 = .ok (.bipush (-3), 2) := by decide +kernel
theorem dX2_newClass_66 : decode cX2_newClass 66 = .ok (.goto 14, 3) := by decide +kernel
theorem dX2_newClass_69 : decode cX2_newClass 69 = .ok (.aload_n 0, 1) := by decide +kernel
theorem dX2_newClass_70 : decode cX2_newClass 70 = .ok (.getfield 12, 3) := by decide +kernel
theorem dX2_newClass_73 : decode cX2_newClass 73 = .ok (.iload 4, 2) := by decide +kernel
theorem dX2_newClass_75 : decode cX2_newClass 75 = .ok (.iload_n 2, 1) := by decide +kernel
theorem dX2_newClass_76 : decode cX2_newClass 76 = .ok (.iload_n 3, 1) := by decide +kernel
theorem dX2_newClass_77 : decode cX2_newClass 77 = .ok (.invokevirtual 42, 3) := by decide +kernel
theorem dX2_newClass_80 : decode cX2_newClass 80 = .ok (.ireturn, 1) := by decide +kernel
set_option maxRecDepth 20000 in
theorem ggX2_newInterface_X2_isTypeOrNone : GoodIn wsX2_newInterface wsX2_isTypeOrNone := goodIn_ca (goodIn_r _ [6, 1, 7, 8, 9, 10, 11, 12, 48, 49, 50, 51, 52, 53, 54, 55, 56] (by decide +kernel) (by decide +kernel)) (goodIn_sub (fun _ h => List.mem_cons_of_mem _ (List.mem_append_right _ h)) (by decide +kernel))
set_option maxRecDepth 20000 in
theorem gX2_newInterface_X2_isTypeOrNone : GoodIn wsX2_newInterface (wsV RX2 28 RX2 yX2_isTypeOrNone wsX2_isTypeOrNone) := goodIn_app (goodIn_of _ (by decide +kernel)) ggX2_newInterface_X2_isTypeOrNone
set_option maxRecDepth 20000 in
theorem ggX2_newInterface_X2_isInterfaceOrNone : GoodIn wsX2_newInterface wsX2_isInterfaceOrNone := goodIn_ca (goodIn_r _ [16, 1, 17, 18, 19, 10, 20, 21, 48, 49, 50, 51, 52, 53, 54, 55, 56] (by decide +kernel) (by decide +kernel)) (goodIn_sub (fun _ h => List.mem_cons_of_mem _ (List.mem_append_right _ h)) (by decide +kernel))
set_option maxRecDepth 20000 in
theorem gX2_newInterface_X2_isInterfaceOrNone : GoodIn wsX2_newInterface (wsV RX2 35 RX2 yX2_isInterfaceOrNone wsX2_isInterfaceOrNone) := goodIn_app (goodIn_of _ (by decide +kernel)) ggX2_newInterface_X2_isInterfaceOrNone
set_option maxRecDepth 20000 in
theorem ggX2_newInterface_X1_isFull : GoodIn wsX2_newInterface wsX1_isFull := goodIn_r _ [25, 12, 52, 53, 54, 55, 56] (by decide +kernel) (by decide +kernel)
set_option maxRecDepth 20000 in
theorem gX2_newInterface_X1_isFull : GoodIn wsX2_newInterface (wsV RX2 38 RX1 yX1_isFull wsX1_isFull) := goodIn_app (goodIn_of _ (by decide +kernel)) ggX2_newInterface_X1_isFull
set_option maxRecDepth 20000 in
theorem ggX2_newInterface_X1_addInterface : GoodIn wsX2_newInterface wsX1_addInterface := goodIn_ca (goodIn_r _ [29, 30, 31, 32, 33, 10, 34, 35, 36, 37, 38, 12, 39, 40, 41, 42, 21, 43, 44, 45, 46, 47, 52, 53, 54, 55, 56] (by decide +kernel) (by decide +kernel)) (goodIn_sub (fun _ h => List.mem_cons_of_mem _ (List.mem_append_right _ h)) (by decide +kernel))
set_option maxRecDepth 20000 in
theorem gX2_newInterface_X1_addInterface : GoodIn wsX2_newInterface (wsV RX2 46 RX1 yX1_addInterface wsX1_addInterface) := goodIn_app (goodIn_of _ (by decide +kernel)) ggX2_newInterface_X1_addInterface
theorem dX2_newInterface_0 : decode cX2_newInterface 0 = .ok (.aload_n 0, 1) := by decide +kernel
theorem dX2_newInterface_1 : decode cX2_newInterface 1 = .ok (.iload_n 1, 1) := by decide +kernel
theorem dX2_newInterface_2 : decode cX2_newInterface 2 = .ok (.invokevirtual 28, 3) := by decide +kernel
theorem dX2_newInterface_5 : decode cX2_newInterface 5 = .ok (.ifCond .eq 11, 3) := by decide +kernel
theorem dX2_newInterface_8 : decode cX2_newInterface 8 = .ok (.aload_n 0, 1) := by decide +kernel
theorem dX2_newInterface_9 : decode cX2_newInterface 9 = .ok (.iload_n 2, 1) := by decide +kernel
theorem dX2_newInterface_10 : decode cX2_newInterface 10 = .ok (.invokevirtual 28, 3) := by decide +kernel
theorem dX2_newInterface_13 : decode cX2_newInterface 13 = .ok (.ifCond .ne 5, 3) := by decide +kernel
theorem dX2_newInterface_16 : decode cX2_newInterface 16 = .ok (.iconst (-1), 1) := by decide +kernel
theorem dX2_newInterface_17 : decode cX2_newInterface 17 = .ok (.ireturn, 1) := by decide +kernel
theorem dX2_newInterface_18 : decode cX2_newInterface 18 = .ok (.aload_n 0, 1) := by decide +kernel
theorem dX2_newInterface_19 : decode cX2_newInterface 19 = .ok (.iload_n 1, 1) := by decide +kernel
theorem dX2_newInterface_20 : decode cX2_newInterface 20 = .ok (.invokevirtual 35, 3) := by decide +kernel
theorem dX2_newInterface_23 : decode cX2_newInterface 23 = .ok (.ifCond .eq 11, 3) := by decide +kernel
theorem dX2_newInterface_26 : decode cX2_newInterface 26 = .ok (.aload_n 0, 1) := by decide +kernel
theorem dX2_newInterface_27 : decode cX2_newInterface 27 = .ok (.iload_n 2, 1) := by decide +kernel
theorem dX2_newInterface_28 : decode cX2_newInterface 28 = .ok (.invokevirtual 35, 3) := by decide +kernel
theorem dX2_newInterface_31 : decode cX2_newInterface 31 = .ok (.ifCond .ne 6, 3) := by decide +kernel
theorem dX2_newInterface_34 : decode cX2_newInterface 34 = .ok (.bipush (-2), 2) := by decide +kernel
theorem dX2_newInterface_36 : decode cX2_newInterface 36 = .ok (.ireturn, 1) := by decide +kernel
theorem dX2_newInterface_37 : decode cX2_newInterface 37 = .ok (.aload_n 0, 1) := by decide +kernel
theorem dX2_newInterface_38 : decode cX2_newInterface 38 = .ok (.getfield 12, 3) := by decide +kernel
theorem dX2_newInterface_41 : decode cX2_newInterface 41 = .ok (.invokevirtual 38, 3) := by decide +kernel
theorem dX2_newInterface_44 : decode cX2_newInterface 44 = .ok (.ifCond .eq 8, 3) := by decide +kernel
theorem dX2_newInterface_47 : decode cX2_newInterface 47 = .ok (.bipush (-3), 2) := by decide +kernel
theorem dX2_newInterface_49 : decode cX2_newInterface 49 = .ok (.goto 12, 3) := by decide +kernel
theorem dX2_newInterface_52 : decode cX2_newInterface 52 = .ok (.aload_n 0, 1) := by decide +kernel
theorem dX2_newInterface_53 : decode cX2_newInterface 53 = .ok (.getfield 12, 3) := by decide +kernel
theorem dX2_newInterface_56 : decode cX2_newInterface 56 = .ok (.iload_n 1, 1) := by decide +kernel
theorem dX2_newInterface_57 : decode cX2_newInterface 57 = .ok (.iload_n 2, 1) := by decide +kernel
theorem dX2_newInterface_58 : decode cX2_newInterface 58 = .ok (.invokevirtual 46, 3) := by decide +kernel
theorem dX2_newInterface_61 : decode cX2_newInterface 61 = .ok (.ireturn, 1) := by decide +kernel
set_option maxRecDepth 20000 in
theorem ggX2_array_X1_has : GoodIn wsX2_array wsX1_has := goodIn_r _ [6, 7, 47, 48, 49, 50, 51] (by decide +kernel) (by decide +kernel)
set_option maxRecDepth 20000 in
theorem gX2_array_X1_has : GoodIn wsX2_array (wsV RX2 50 RX1 yX1_has wsX1_has) := goodIn_app (goodIn_of _ (by decide +kernel)) ggX2_array_X1_has
set_option maxRecDepth 20000 in
theorem ggX2_array_X1_arrayOf : GoodIn wsX2_array wsX1_arrayOf := goodIn_ca (goodIn_r _ [11, 7, 12, 13, 47, 48, 49, 50, 51] (by decide +kernel) (by decide +kernel)) (goodIn_sub (fun _ h => List.mem_cons_of_mem _ (List.mem_append_right _ h)) (by decide +kernel))
set_option maxRecDepth 20000 in
theorem gX2_array_X1_arrayOf : GoodIn wsX2_array (wsV RX2 53 RX1 yX1_arrayOf wsX1_arrayOf) := goodIn_app (goodIn_of _ (by decide +kernel)) ggX2_array_X1_arrayOf
set_option maxRecDepth 20000 in
theorem ggX2_array_X1_isFull : GoodIn wsX2_array wsX1_isFull := goodIn_r _ [17, 7, 47, 48, 49, 50, 51] (by decide +kernel) (by decide +kernel)
set_option maxRecDepth 20000 in
theorem gX2_array_X1_isFull : GoodIn wsX2_array (wsV RX2 38 RX1 yX1_isFull wsX1_isFull) := goodIn_app (goodIn_of _ (by decide +kernel)) ggX2_array_X1_isFull
set_option maxRecDepth 20000 in
theorem ggX2_array_X1_addArray : GoodIn wsX2_array wsX1_addArray := goodIn_ca (goodIn_r _ [21, 22, 13, 12, 23, 24, 25, 5, 26, 7, 27, 28, 29, 30, 31, 32, 33, 34, 35, 36, 37, 38, 39, 40, 41, 42, 47, 48, 49, 50, 51] (by decide +kernel) (by decide +kernel)) (goodIn_sub (fun _ h => List.mem_cons_of_mem _ (List.mem_append_right _ h)) (by decide +kernel))
set_option maxRecDepth 20000 in
theorem gX2_array_X1_addArray : GoodIn wsX2_array (wsV RX2 57 RX1 yX1_addArray wsX1_addArray) := goodIn_app (goodIn_of _ (by decide +kernel)) ggX2_array_X1_addArray
theorem dX2_array_0 : decode cX2_array 0 = .ok (.aload_n 0, 1) := by decide +kernel
theorem dX2_array_1 : decode cX2_array 1 = .ok (.getfield 12, 3) := by decide +kernel
theorem dX2_array_4 : decode cX2_array 4 = .ok (.iload_n 1, 1) := by decide +kernel
theorem dX2_array_5 : decode cX2_array 5 = .ok (.invokevirtual 50, 3) := by decide +kernel
theorem dX2_array_8 : decode cX2_array 8 = .ok (.ifCond .ne 5, 3) := by decide +kernel
theorem dX2_array_11 : decode cX2_array 11 = .ok (.iconst (-1), 1) := by decide +kernel
theorem dX2_array_12 : decode cX2_array 12 = .ok (.ireturn, 1) := by decide +kernel
theorem dX2_array_13 : decode cX2_array 13 = .ok (.iload_n 1, 1) := by decide +kernel
theorem dX2_array_14 : decode cX2_array 14 = .ok (.bipush 22, 2) := by decide +kernel
theorem dX2_array_16 : decode cX2_array 16 = .ok (.if_icmp .ne 6, 3) := by decide +kernel
theorem dX2_array_19 : decode cX2_array 19 = .ok (.bipush (-2), 2) := by decide +kernel
theorem dX2_array_21 : decode cX2_array 21 = .ok (.ireturn, 1) := by decide +kernel
theorem dX2_array_22 : decode cX2_array 22 = .ok (.aload_n 0, 1) := by decide +kernel
theorem dX2_array_23 : decode cX2_array 23 = .ok (.getfield 12, 3) := by decide +kernel
theorem dX2_array_26 : decode cX2_array 26 = .ok (.iload_n 1, 1) := by decide +kernel
theorem dX2_array_27 : decode cX2_array 27 = .ok (.invokevirtual 53, 3) := by decide +kernel
theorem dX2_array_30 : decode cX2_array 30 = .ok (.istore_n 2, 1) := by decide +kernel
theorem dX2_array_31 : decode cX2_array 31 = .ok (.iload_n 2, 1) := by decide +kernel
theorem dX2_array_32 : decode cX2_array 32 = .ok (.iconst (-1), 1) := by decide +kernel
theorem dX2_array_33 : decode cX2_array 33 = .ok (.if_icmp .eq 5, 3) := by decide +kernel
theorem dX2_array_36 : decode cX2_array 36 = .ok (.iload_n 2, 1) := by decide +kernel
theorem dX2_array_37 : decode cX2_array 37 = .ok (.ireturn, 1) := by decide +kernel
theorem dX2_array_38 : decode cX2_array 38 = .ok (.aload_n 0, 1) := by decide +kernel
theorem dX2_array_39 : decode cX2_array 39 = .ok (.getfield 12, 3) := by decide +kernel
theorem dX2_array_42 : decode cX2_array 42 = .ok (.invokevirtual 38, 3) := by decide +kernel
theorem dX2_array_45 : decode cX2_array 45 = .ok (.ifCond .eq 8, 3) := by decide +kernel
theorem dX2_array_48 : decode cX2_array 48 = .ok (.bipush (-3), 2) := by decide +kernel
theorem dX2_array_50 : decode cX2_array 50 = .ok (.goto 11, 3) := by decide +kernel
theorem dX2_array_53 : decode cX2_array 53 = .ok (.aload_n 0, 1) := by decide +kernel
theorem dX2_array_54 : decode cX2_array 54 = .ok (.getfield 12, 3) := by decide +kernel
theorem dX2_array_57 : decode cX2_array 57 = .ok (.iload_n 1, 1) := by decide +kernel
theorem dX2_array_58 : decode cX2_array 58 = .ok (.invokevirtual 57, 3) := by decide +kernel
theorem dX2_array_61 : decode cX2_array 61 = .ok (.ireturn, 1) := by decide +kernel
set_option maxRecDepth 20000 in
theorem ggX2_type_X1_has : GoodIn wsX2_type wsX1_has := goodIn_r _ [6, 7, 39, 40, 41, 42, 43] (by decide +kernel) (by decide +kernel)
set_option maxRecDepth 20000 in
theorem gX2_type_X1_has : GoodIn wsX2_type (wsV RX2 50 RX1 yX1_has wsX1_has) := goodIn_app (goodIn_of _ (by decide +kernel)) ggX2_type_X1_has
set_option maxRecDepth 20000 in
theorem ggX2_type_X1_sortOf : GoodIn wsX2_type wsX1_sortOf := goodIn_ca (goodIn_r _ [11, 12, 39, 40, 41, 42, 43] (by decide +kernel) (by decide +kernel)) (goodIn_sub (fun _ h => List.mem_cons_of_mem _ (List.mem_append_right _ h)) (by decide +kernel))
set_option maxRecDepth 20000 in
theorem gX2_type_X1_sortOf : GoodIn wsX2_type (wsV RX2 60 RX1 yX1_sortOf wsX1_sortOf) := goodIn_app (goodIn_of _ (by decide +kernel)) ggX2_type_X1_sortOf
set_option maxRecDepth 20000 in
theorem ggX2_type_X1_isFinal : GoodIn wsX2_type wsX1_isFinal := goodIn_ca (goodIn_r _ [16, 17, 39, 40, 41, 42, 43] (by decide +kernel) (by decide +kernel)) (goodIn_sub (fun _ h => List.mem_cons_of_mem _ (List.mem_append_right _ h)) (by decide +kernel))
set_option maxRecDepth 20000 in
theorem gX2_type_X1_isFinal : GoodIn wsX2_type (wsV RX2 63 RX1 yX1_isFinal wsX1_isFinal) := goodIn_app (goodIn_of _ (by decide +kernel)) ggX2_type_X1_isFinal
set_option maxRecDepth 20000 in
theorem ggX2_type_X1_elementOf : GoodIn wsX2_type wsX1_elementOf := goodIn_ca (goodIn_r _ [21, 22, 39, 40, 41, 42, 43] (by decide +kernel) (by decide +kernel)) (goodIn_sub (fun _ h => List.mem_cons_of_mem _ (List.mem_append_right _ h)) (by decide +kernel))
set_option maxRecDepth 20000 in
theorem gX2_type_X1_elementOf : GoodIn wsX2_type (wsV RX2 66 RX1 yX1_elementOf wsX1_elementOf) := goodIn_app (goodIn_of _ (by decide +kernel)) ggX2_type_X1_elementOf
set_option maxRecDepth 20000 in
theorem ggX2_type_X1_countAbove : GoodIn wsX2_type wsX1_countAbove := goodIn_ca (goodIn_r _ [26, 27, 28, 29, 30, 31, 32, 33, 34, 39, 40, 41, 42, 43] (by decide +kernel) (by decide +kernel)) (goodIn_sub (fun _ h => List.mem_cons_of_mem _ (List.mem_append_right _ h)) (by decide +kernel))
set_option maxRecDepth 20000 in
theorem gX2_type_X1_countAbove : GoodIn wsX2_type (wsV RX2 69 RX1 yX1_countAbove wsX1_countAbove) := goodIn_app (goodIn_of _ (by decide +kernel)) ggX2_type_X1_countAbove
theorem dX2_type_0 : decode cX2_type 0 = .ok (.aload_n 0, 1) := by decide +kernel
theorem dX2_type_1 : decode cX2_type 1 = .ok (.getfield 12, 3) := by decide +kernel
theorem dX2_type_4 : decode cX2_type 4 = .ok (.iload_n 1, 1) := by decide +kernel
theorem dX2_type_5 : decode cX2_type 5 = .ok (.invokevirtual 50, 3) := by decide +kernel
theorem dX2_type_8 : decode cX2_type 8 = .ok (.ifCond .ne 5, 3) := by decide +kernel
theorem dX2_type_11 : decode cX2_type 11 = .ok (.iconst (-1), 1) := by decide +kernel
theorem dX2_type_12 : decode cX2_type 12 = .ok (.ireturn, 1) := by decide +kernel
theorem dX2_type_13 : decode cX2_type 13 = .ok (.iload_n 2, 1) := by decide +kernel
theorem dX2_type_14 : decode cX2_type 14 = .ok (.tableswitch 91 0 3 #[30, 39, 56, 82], 30) := by decide +kernel
theorem dX2_type_44 : decode cX2_type 44 = .ok (.aload_n 0, 1) := by decide +kernel
theorem dX2_type_45 : decode cX2_type 45 = .ok (.getfield 12, 3) := by decide +kernel
theorem dX2_type_48 : decode cX2_type 48 = .ok (.iload_n 1, 1) := by decide +kernel
theorem dX2_type_49 : decode cX2_type 49 = .ok (.invokevirtual 60, 3) := by decide +kernel
theorem dX2_type_52 : decode cX2_type 52 = .ok (.ireturn, 1) := by decide +kernel
theorem dX2_type_53 : decode cX2_type 53 = .ok (.aload_n 0, 1) := by decide +kernel
theorem dX2_type_54 : decode cX2_type 54 = .ok (.getfield 12, 3) := by decide +kernel
theorem dX2_type_57 : decode cX2_type 57 = .ok (.iload_n 1, 1) := by decide +kernel
theorem dX2_type_58 : decode cX2_type 58 = .ok (.invokevirtual 63, 3) := by decide +kernel
theorem dX2_type_61 : decode cX2_type 61 = .ok (.ifCond .eq 7, 3) := by decide +kernel
theorem dX2_type_64 : decode cX2_type 64 = .ok (.iconst 1, 1) := by decide +kernel
theorem dX2_type_65 : decode cX2_type 65 = .ok (.goto 4, 3) := by decide +kernel
theorem dX2_type_68 : decode cX2_type 68 = .ok (.iconst 0, 1) := by decide +kernel
theorem dX2_type_69 : decode cX2_type 69 = .ok (.ireturn, 1) := by decide +kernel
theorem dX2_type_70 : decode cX2_type 70 = .ok (.aload_n 0, 1) := by decide +kernel
theorem dX2_type_71 : decode cX2_type 71 = .ok (.getfield 12, 3) := by decide +kernel
theorem dX2_type_74 : decode cX2_type 74 = .ok (.iload_n 1, 1) := by decide +kernel
theorem dX2_type_75 : decode cX2_type 75 = .ok (.invokevirtual 60, 3) := by decide +kernel
theorem dX2_type_78 : decode cX2_type 78 = .ok (.iconst 3, 1) := by decide +kernel
theorem dX2_type_79 : decode cX2_type 79 = .ok (.if_icmp .ne 14, 3) := by decide +kernel
theorem dX2_type_82 : decode cX2_type 82 = .ok (.aload_n 0, 1) := by decide +kernel
theorem dX2_type_83 : decode cX2_type 83 = .ok (.getfield 12, 3) := by decide +kernel
theorem dX2_type_86 : decode cX2_type 86 = .ok (.iload_n 1, 1) := by decide +kernel
theorem dX2_type_87 : decode cX2_type 87 = .ok (.invokevirtual 66, 3) := by decide +kernel
theorem dX2_type_90 : decode cX2_type 90 = .ok (.goto 5, 3) := by decide +kernel
theorem dX2_type_93 : decode cX2_type 93 = .ok (.bipush (-2), 2) := by decide +kernel
theorem dX2_type_95 : decode cX2_type 95 = .ok (.ireturn, 1) := by decide +kernel
theorem dX2_type_96 : decode cX2_type 96 = .ok (.aload_n 0, 1) := by decide +kernel
theorem dX2_type_97 : decode cX2_type 97 = .ok (.getfield 12, 3) := by decide +kernel
theorem dX2_type_100 : decode cX2_type 100 = .ok (.iload_n 1, 1) := by decide +kernel
theorem dX2_type_101 : decode cX2_type 101 = .ok (.invokevirtual 69, 3) := by decide +kernel
theorem dX2_type_104 : decode cX2_type 104 = .ok (.ireturn, 1) := by decide +kernel
theorem dX2_type_105 : decode cX2_type 105 = .ok (.bipush (-2), 2) := by decide +kernel
theorem dX2_type_107 : decode cX2_type 107 = .ok (.ireturn, 1) := by decide +kernel
set_option maxRecDepth 20000 in
theorem ggX2_under_X1_has : GoodIn wsX2_under wsX1_has := goodIn_r _ [6, 7, 24, 25, 26, 27, 28] (by decide +kernel) (by decide +kernel)
set_option maxRecDepth 20000 in
theorem gX2_under_X1_has : GoodIn wsX2_under (wsV RX2 50 RX1 yX1_has wsX1_has) := goodIn_app (goodIn_of _ (by decide +kernel)) ggX2_under_X1_has
set_option maxRecDepth 20000 in
theorem ggX2_under_X2_isPrimitive : GoodIn wsX2_under wsX2_isPrimitive := goodIn_r _ [11] (by decide +kernel) (by decide +kernel)
set_option maxRecDepth 20000 in
theorem gX2_under_X2_isPrimitive : GoodIn wsX2_under (va_wsS RX2 72 yX2_isPrimitive wsX2_isPrimitive) := goodIn_app (goodIn_of _ (by decide +kernel)) ggX2_under_X2_isPrimitive
set_option maxRecDepth 20000 in
theorem ggX2_under_X1_isUnder : GoodIn wsX2_under wsX1_isUnder := goodIn_ca (goodIn_r _ [15, 16, 17, 18, 5, 19, 24, 25, 26, 27, 28] (by decide +kernel) (by decide +kernel)) (goodIn_sub (fun _ h => List.mem_cons_of_mem _ (List.mem_append_right _ h)) (by decide +kernel))
set_option maxRecDepth 20000 in
theorem gX2_under_X1_isUnder : GoodIn wsX2_under (wsV RX2 75 RX1 yX1_isUnder wsX1_isUnder) := goodIn_app (goodIn_of _ (by decide +kernel)) ggX2_under_X1_isUnder
theorem dX2_under_0 : decode cX2_under 0 = .ok (.aload_n 0, 1) := by decide +kernel
theorem dX2_under_1 : decode cX2_under 1 = .ok (.getfield 12, 3) := by decide +kernel
theorem dX2_under_4 : decode cX2_under 4 = .ok (.iload_n 1, 1) := by decide +kernel
theorem dX2_under_5 : decode cX2_under 5 = .ok (.invokevirtual 50, 3) := by decide +kernel
theorem dX2_under_8 : decode cX2_under 8 = .ok (.ifCond .eq 14, 3) := by decide +kernel
theorem dX2_under_11 : decode cX2_under 11 = .ok (.aload_n 0, 1) := by decide +kernel
theorem dX2_under_12 : decode cX2_under 12 = .ok (.getfield 12, 3) := by decide +kernel
theorem dX2_under_15 : decode cX2_under 15 = .ok (.iload_n 2, 1) := by decide +kernel
theorem dX2_under_16 : decode cX2_under 16 = .ok (.invokevirtual 50, 3) := by decide +kernel
theorem dX2_under_19 : decode cX2_under 19 = .ok (.ifCond .ne 5, 3) := by decide +kernel
theorem dX2_under_22 : decode cX2_under 22 = .ok (.iconst (-1), 1) := by decide +kernel
theorem dX2_under_23 : decode cX2_under 23 = .ok (.ireturn, 1) := by decide +kernel
theorem dX2_under_24 : decode cX2_under 24 = .ok (.iload_n 1, 1) := by decide +kernel
theorem dX2_under_25 : decode cX2_under 25 = .ok (.invokestatic 72, 3) := by decide +kernel
theorem dX2_under_28 : decode cX2_under 28 = .ok (.ifCond .ne 10, 3) := by decide +kernel
theorem dX2_under_31 : decode cX2_under 31 = .ok (.iload_n 2, 1) := by decide +kernel
theorem dX2_under_32 : decode cX2_under 32 = .ok (.invokestatic 72, 3) := by decide +kernel
theorem dX2_under_35 : decode cX2_under 35 = .ok (.ifCond .eq 6, 3) := by decide +kernel
theorem dX2_under_38 : decode cX2_under 38 = .ok (.bipush (-2), 2) := by decide +kernel
theorem dX2_under_40 : decode cX2_under 40 = .ok (.ireturn, 1) := by decide +kernel
theorem dX2_under_41 : decode cX2_under 41 = .ok (.aload_n 0, 1) := by decide +kernel
theorem dX2_under_42 : decode cX2_under 42 = .ok (.getfield 12, 3) := by decide +kernel
theorem dX2_under_45 : decode cX2_under 45 = .ok (.iload_n 1, 1) := by decide +kernel
theorem dX2_under_46 : decode cX2_under 46 = .ok (.iload_n 2, 1) := by decide +kernel
theorem dX2_under_47 : decode cX2_under 47 = .ok (.invokevirtual 75, 3) := by decide +kernel
theorem dX2_under_50 : decode cX2_under 50 = .ok (.ifCond .eq 7, 3) := by decide +kernel
theorem dX2_under_53 : decode cX2_under 53 = .ok (.iconst 1, 1) := by decide +kernel
theorem dX2_under_54 : decode cX2_under 54 = .ok (.goto 4, 3) := by decide +kernel
theorem dX2_under_57 : decode cX2_under 57 = .ok (.iconst 0, 1) := by decide +kernel
theorem dX2_under_58 : decode cX2_under 58 = .ok (.ireturn, 1) := by decide +kernel
set_option maxRecDepth 20000 in
theorem ggX2_isTypeOrNone_X1_has : GoodIn wsX2_isTypeOrNone wsX1_has := goodIn_r _ [6, 7, 12, 13, 14, 15, 16] (by decide +kernel) (by decide +kernel)
set_option maxRecDepth 20000 in
theorem gX2_isTypeOrNone_X1_has : GoodIn wsX2_isTypeOrNone (wsV RX2 50 RX1 yX1_has wsX1_has) := goodIn_app (goodIn_of _ (by decide +kernel)) ggX2_isTypeOrNone_X1_has
theorem dX2_isTypeOrNone_0 : decode cX2_isTypeOrNone 0 = .ok (.iload_n 1, 1) := by decide +kernel
theorem dX2_isTypeOrNone_1 : decode cX2_isTypeOrNone 1 = .ok (.iconst (-1), 1) := by decide +kernel
theorem dX2_isTypeOrNone_2 : decode cX2_isTypeOrNone 2 = .ok (.if_icmp .eq 14, 3) := by decide +kernel
theorem dX2_isTypeOrNone_5 : decode cX2_isTypeOrNone 5 = .ok (.aload_n 0, 1) := by decide +kernel
theorem dX2_isTypeOrNone_6 : decode cX2_isTypeOrNone 6 = .ok (.getfield 12, 3) := by decide +kernel
theorem dX2_isTypeOrNone_9 : decode cX2_isTypeOrNone 9 = .ok (.iload_n 1, 1) := by decide +kernel
theorem dX2_isTypeOrNone_10 : decode cX2_isTypeOrNone 10 = .ok (.invokevirtual 50, 3) := by decide +kernel
theorem dX2_isTypeOrNone_13 : decode cX2_isTypeOrNone 13 = .ok (.ifCond .eq 7, 3) := by decide +kernel
theorem dX2_isTypeOrNone_16 : decode cX2_isTypeOrNone 16 = .ok (.iconst 1, 1) := by decide +kernel
theorem dX2_isTypeOrNone_17 : decode cX2_isTypeOrNone 17 = .ok (.goto 4, 3) := by decide +kernel
theorem dX2_isTypeOrNone_20 : decode cX2_isTypeOrNone 20 = .ok (.iconst 0, 1) := by decide +kernel
theorem dX2_isTypeOrNone_21 : decode cX2_isTypeOrNone 21 = .ok (.ireturn, 1) := by decide +kernel
set_option maxRecDepth 20000 in
theorem ggX2_isInterfaceOrNone_X1_sortOf : GoodIn wsX2_isInterfaceOrNone wsX1_sortOf := goodIn_ca (goodIn_r _ [6, 7, 12, 13, 14, 15, 16] (by decide +kernel) (by decide +kernel)) (goodIn_sub (fun _ h => List.mem_cons_of_mem _ (List.mem_append_right _ h)) (by decide +kernel))
set_option maxRecDepth 20000 in
theorem gX2_isInterfaceOrNone_X1_sortOf : GoodIn wsX2_isInterfaceOrNone (wsV RX2 60 RX1 yX1_sortOf wsX1_sortOf) := goodIn_app (goodIn_of _ (by decide +kernel)) ggX2_isInterfaceOrNone_X1_sortOf
theorem dX2_isInterfaceOrNone_0 : decode cX2_isInterfaceOrNone 0 = .ok (.iload_n 1, 1) := by decide +kernel
theorem dX2_isInterfaceOrNone_1 : decode cX2_isInterfaceOrNone 1 = .ok (.iconst (-1), 1) := by decide +kernel
theorem dX2_isInterfaceOrNone_2 : decode cX2_isInterfaceOrNone 2 = .ok (.if_icmp .eq 15, 3) := by decide +kernel
theorem dX2_isInterfaceOrNone_5 : decode cX2_isInterfaceOrNone 5 = .ok (.aload_n 0, 1) := by decide +kernel
theorem dX2_isInterfaceOrNone_6 : decode cX2_isInterfaceOrNone 6 = .ok (.getfield 12, 3) := by decide +kernel
theorem dX2_isInterfaceOrNone_9 : decode cX2_isInterfaceOrNone 9 = .ok (.iload_n 1, 1) := by decide +kernel
theorem dX2_isInterfaceOrNone_10 : decode cX2_isInterfaceOrNone 10 = .ok (.invokevirtual 60, 3) := by decide +kernel
theorem dX2_isInterfaceOrNone_13 : decode cX2_isInterfaceOrNone 13 = .ok (.iconst 2, 1) := by decide +kernel
theorem dX2_isInterfaceOrNone_14 : decode cX2_isInterfaceOrNone 14 = .ok (.if_icmp .ne 7, 3) := by decide +kernel
theorem dX2_isInterfaceOrNone_17 : decode cX2_isInterfaceOrNone 17 = .ok (.iconst 1, 1) := by decide +kernel
theorem dX2_isInterfaceOrNone_18 : decode cX2_isInterfaceOrNone 18 = .ok (.goto 4, 3) := by decide +kernel
theorem dX2_isInterfaceOrNone_21 : decode cX2_isInterfaceOrNone 21 = .ok (.iconst 0, 1) := by decide +kernel
theorem dX2_isInterfaceOrNone_22 : decode cX2_isInterfaceOrNone 22 = .ok (.ireturn, 1) := by decide +kernel
set_option maxRecDepth 20000 in
theorem ggX2_kind_X1_has : GoodIn wsX2_kind wsX1_has := goodIn_r _ [6, 7, 86, 87, 88, 89, 90] (by decide +kernel) (by decide +kernel)
set_option maxRecDepth 20000 in
theorem gX2_kind_X1_has : GoodIn wsX2_kind (wsV RX2 50 RX1 yX1_has wsX1_has) := goodIn_app (goodIn_of _ (by decide +kernel)) ggX2_kind_X1_has
set_option maxRecDepth 20000 in
theorem ggX2_kind_X2_isContext : GoodIn wsX2_kind wsX2_isContext := goodIn_r _ [11] (by decide +kernel) (by decide +kernel)
set_option maxRecDepth 20000 in
theorem gX2_kind_X2_isContext : GoodIn wsX2_kind (va_wsS RX2 79 yX2_isContext wsX2_isContext) := goodIn_app (goodIn_of _ (by decide +kernel)) ggX2_kind_X2_isContext
set_option maxRecDepth 20000 in
theorem ggX2_kind_X2_allowedKind : GoodIn wsX2_kind wsX2_allowedKind := goodIn_ca (goodIn_r _ [15, 16, 17, 18, 10, 19, 20, 21, 22, 23, 24, 25, 26, 27, 28, 29, 30, 31, 32, 33, 34, 35, 36, 1, 37, 38, 39, 40, 41, 42, 5, 43, 44, 45, 46, 47, 48, 49, 50, 51, 52, 53, 54, 55, 56, 57, 58, 59, 60, 61, 62, 63, 64, 65, 66, 67, 68, 69, 70, 71, 72, 73, 74, 75, 76, 77, 78, 79, 80, 81, 82, 83, 84, 85, 86, 87, 88, 89, 90] (by decide +kernel) (by decide +kernel)) (goodIn_sub (fun _ h => List.mem_cons_of_mem _ (List.mem_append_right _ h)) (by decide +kernel))
set_option maxRecDepth 20000 in
theorem gX2_kind_X2_allowedKind : GoodIn wsX2_kind (wsV RX2 82 RX2 yX2_allowedKind wsX2_allowedKind) := goodIn_app (goodIn_of _ (by decide +kernel)) ggX2_kind_X2_allowedKind
theorem dX2_kind_0 : decode cX2_kind 0 = .ok (.aload_n 0, 1) := by decide +kernel
theorem dX2_kind_1 : decode cX2_kind 1 = .ok (.getfield 12, 3) := by decide +kernel
theorem dX2_kind_4 : decode cX2_kind 4 = .ok (.iload_n 1, 1) := by decide +kernel
theorem dX2_kind_5 : decode cX2_kind 5 = .ok (.invokevirtual 50, 3) := by decide +kernel
theorem dX2_kind_8 : decode cX2_kind 8 = .ok (.ifCond .eq 21, 3) := by decide +kernel
theorem dX2_kind_11 : decode cX2_kind 11 = .ok (.aload_n 0, 1) := by decide +kernel
theorem dX2_kind_12 : decode cX2_kind 12 = .ok (.getfield 12, 3) := by decide +kernel
theorem dX2_kind_15 : decode cX2_kind 15 = .ok (.iload_n 2, 1) := by decide +kernel
theorem dX2_kind_16 : decode cX2_kind 16 = .ok (.invokevirtual 50, 3) := by decide +kernel
theorem dX2_kind_19 : decode cX2_kind 19 = .ok (.ifCond .eq 10, 3) := by decide +kernel
theorem dX2_kind_22 : decode cX2_kind 22 = .ok (.iload_n 3, 1) := by decide +kernel
theorem dX2_kind_23 : decode cX2_kind 23 = .ok (.invokestatic 79, 3) := by decide +kernel
theorem dX2_kind_26 : decode cX2_kind 26 = .ok (.ifCond .ne 5, 3) := by decide +kernel
theorem dX2_kind_29 : decode cX2_kind 29 = .ok (.iconst (-1), 1) := by decide +kernel
theorem dX2_kind_30 : decode cX2_kind 30 = .ok (.ireturn, 1) := by decide +kernel
theorem dX2_kind_31 : decode cX2_kind 31 = .ok (.aload_n 0, 1) := by decide +kernel
theorem dX2_kind_32 : decode cX2_kind 32 = .ok (.iload_n 1, 1) := by decide +kernel
theorem dX2_kind_33 : decode cX2_kind 33 = .ok (.iload_n 2, 1) := by decide +kernel
theorem dX2_kind_34 : decode cX2_kind 34 = .ok (.iload_n 3, 1) := by decide +kernel
theorem dX2_kind_35 : decode cX2_kind 35 = .ok (.invokevirtual 82, 3) := by decide +kernel
theorem dX2_kind_38 : decode cX2_kind 38 = .ok (.ireturn, 1) := by decide +kernel
set_option maxRecDepth 20000 in
theorem ggX2_given_X1_has : GoodIn wsX2_given wsX1_has := goodIn_r _ [6, 7, 94, 95, 96, 97, 98] (by decide +kernel) (by decide +kernel)
set_option maxRecDepth 20000 in
theorem gX2_given_X1_has : GoodIn wsX2_given (wsV RX2 50 RX1 yX1_has wsX1_has) := goodIn_app (goodIn_of _ (by decide +kernel)) ggX2_given_X1_has
set_option maxRecDepth 20000 in
theorem ggX2_given_X2_isWhole : GoodIn wsX2_given wsX2_isWhole := goodIn_r _ [11] (by decide +kernel) (by decide +kernel)
set_option maxRecDepth 20000 in
theorem gX2_given_X2_isWhole : GoodIn wsX2_given (va_wsS RX2 86 yX2_isWhole wsX2_isWhole) := goodIn_app (goodIn_of _ (by decide +kernel)) ggX2_given_X2_isWhole
set_option maxRecDepth 20000 in
theorem ggX2_given_X2_areBitsOf : GoodIn wsX2_given wsX2_areBitsOf := goodIn_ca (goodIn_r _ [14, 15, 16] (by decide +kernel) (by decide +kernel)) (goodIn_sub (fun _ h => List.mem_cons_of_mem _ (List.mem_append_right _ h)) (by decide +kernel))
set_option maxRecDepth 20000 in
theorem gX2_given_X2_areBitsOf : GoodIn wsX2_given (va_wsS RX2 89 yX2_areBitsOf wsX2_areBitsOf) := goodIn_app (goodIn_of _ (by decide +kernel)) ggX2_given_X2_areBitsOf
set_option maxRecDepth 20000 in
theorem ggX2_given_X2_allowedKind : GoodIn wsX2_given wsX2_allowedKind := goodIn_ca (goodIn_r _ [20, 21, 22, 23, 10, 24, 25, 26, 27, 28, 29, 30, 31, 32, 33, 34, 35, 36, 37, 38, 39, 40, 41, 1, 42, 43, 44, 45, 46, 47, 5, 48, 49, 50, 51, 52, 53, 54, 55, 56, 57, 58, 59, 60, 61, 62, 63, 64, 65, 66, 67, 68, 69, 70, 71, 72, 73, 74, 75, 76, 77, 78, 79, 80, 81, 82, 83, 84, 85, 86, 90, 91, 92, 93, 94, 95, 96, 97, 98] (by decide +kernel) (by decide +kernel)) (goodIn_sub (fun _ h => List.mem_cons_of_mem _ (List.mem_append_right _ h)) (by decide +kernel))
set_option maxRecDepth 20000 in
theorem gX2_given_X2_allowedKind : GoodIn wsX2_given (wsV RX2 82 RX2 yX2_allowedKind wsX2_allowedKind) := goodIn_app (goodIn_of _ (by decide +kernel)) ggX2_given_X2_allowedKind
set_option maxRecDepth 20000 in
theorem ggX2_given_X2_constantFits : GoodIn wsX2_given wsX2_constantFits := goodIn_ca (goodIn_r _ [89, 80, 81, 10, 82, 57, 58, 59, 12, 13, 14, 15, 16] (by decide +kernel) (by decide +kernel)) (goodIn_sub (fun _ h => List.mem_cons_of_mem _ (List.mem_append_right _ h)) (by decide +kernel))
set_option maxRecDepth 20000 in
theorem gX2_given_X2_constantFits : GoodIn wsX2_given (va_wsS RX2 93 yX2_constantFits wsX2_constantFits) := goodIn_app (goodIn_of _ (by decide +kernel)) ggX2_given_X2_constantFits
theorem dX2_given_0 : decode cX2_given 0 = .ok (.aload_n 0, 1) := by decide +kernel
theorem dX2_given_1 : decode cX2_given 1 = .ok (.getfield 12, 3) := by decide +kernel
theorem dX2_given_4 : decode cX2_given 4 = .ok (.iload_n 3, 1) := by decide +kernel
theorem dX2_given_5 : decode cX2_given 5 = .ok (.invokevirtual 50, 3) := by decide +kernel
theorem dX2_given_8 : decode cX2_given 8 = .ok (.ifCond .eq 15, 3) := by decide +kernel
theorem dX2_given_11 : decode cX2_given 11 = .ok (.aload_n 0, 1) := by decide +kernel
theorem dX2_given_12 : decode cX2_given 12 = .ok (.getfield 12, 3) := by decide +kernel
theorem dX2_given_15 : decode cX2_given 15 = .ok (.iload 4, 2) := by decide +kernel
theorem dX2_given_17 : decode cX2_given 17 = .ok (.invokevirtual 50, 3) := by decide +kernel
theorem dX2_given_20 : decode cX2_given 20 = .ok (.ifCond .ne 5, 3) := by decide +kernel
theorem dX2_given_23 : decode cX2_given 23 = .ok (.iconst (-1), 1) := by decide +kernel
theorem dX2_given_24 : decode cX2_given 24 = .ok (.ireturn, 1) := by decide +kernel
theorem dX2_given_25 : decode cX2_given 25 = .ok (.iload_n 3, 1) := by decide +kernel
theorem dX2_given_26 : decode cX2_given 26 = .ok (.invokestatic 86, 3) := by decide +kernel
theorem dX2_given_29 : decode cX2_given 29 = .ok (.ifCond .eq 11, 3) := by decide +kernel
theorem dX2_given_32 : decode cX2_given 32 = .ok (.lload_n 1, 1) := by decide +kernel
theorem dX2_given_33 : decode cX2_given 33 = .ok (.iload_n 3, 1) := by decide +kernel
theorem dX2_given_34 : decode cX2_given 34 = .ok (.invokestatic 89, 3) := by decide +kernel
theorem dX2_given_37 : decode cX2_given 37 = .ok (.ifCond .ne 6, 3) := by decide +kernel
theorem dX2_given_40 : decode cX2_given 40 = .ok (.bipush (-2), 2) := by decide +kernel
theorem dX2_given_42 : decode cX2_given 42 = .ok (.ireturn, 1) := by decide +kernel
theorem dX2_given_43 : decode cX2_given 43 = .ok (.aload_n 0, 1) := by decide +kernel
theorem dX2_given_44 : decode cX2_given 44 = .ok (.iload_n 3, 1) := by decide +kernel
theorem dX2_given_45 : decode cX2_given 45 = .ok (.iload 4, 2) := by decide +kernel
theorem dX2_given_47 : decode cX2_given 47 = .ok (.iconst 2, 1) := by decide +kernel
theorem dX2_given_48 : decode cX2_given 48 = .ok (.invokevirtual 82, 3) := by decide +kernel
theorem dX2_given_51 : decode cX2_given 51 = .ok (.ifCond .ne 13, 3) := by decide +kernel
theorem dX2_given_54 : decode cX2_given 54 = .ok (.lload_n 1, 1) := by decide +kernel
theorem dX2_given_55 : decode cX2_given 55 = .ok (.iload_n 3, 1) := by decide +kernel
theorem dX2_given_56 : decode cX2_given 56 = .ok (.iload 4, 2) := by decide +kernel
theorem dX2_given_58 : decode cX2_given 58 = .ok (.invokestatic 93, 3) := by decide +kernel
theorem dX2_given_61 : decode cX2_given 61 = .ok (.ifCond .eq 7, 3) := by decide +kernel
theorem dX2_given_64 : decode cX2_given 64 = .ok (.iconst 1, 1) := by decide +kernel
theorem dX2_given_65 : decode cX2_given 65 = .ok (.goto 4, 3) := by decide +kernel
theorem dX2_given_68 : decode cX2_given 68 = .ok (.iconst 0, 1) := by decide +kernel
theorem dX2_given_69 : decode cX2_given 69 = .ok (.istore 5, 2) := by decide +kernel
theorem dX2_given_71 : decode cX2_given 71 = .ok (.iload 5, 2) := by decide +kernel
theorem dX2_given_73 : decode cX2_given 73 = .ok (.ifCond .eq 7, 3) := by decide +kernel
theorem dX2_given_76 : decode cX2_given 76 = .ok (.iconst 1, 1) := by decide +kernel
theorem dX2_given_77 : decode cX2_given 77 = .ok (.goto 4, 3) := by decide +kernel
theorem dX2_given_80 : decode cX2_given 80 = .ok (.iconst 0, 1) := by decide +kernel
theorem dX2_given_81 : decode cX2_given 81 = .ok (.ireturn, 1) := by decide +kernel
set_option maxRecDepth 20000 in
theorem ggX2_targets_X1_has : GoodIn wsX2_targets wsX1_has := goodIn_r _ [6, 7, 90, 91, 92, 93, 94] (by decide +kernel) (by decide +kernel)
set_option maxRecDepth 20000 in
theorem gX2_targets_X1_has : GoodIn wsX2_targets (wsV RX2 50 RX1 yX1_has wsX1_has) := goodIn_app (goodIn_of _ (by decide +kernel)) ggX2_targets_X1_has
set_option maxRecDepth 20000 in
theorem ggX2_targets_X2_isContext : GoodIn wsX2_targets wsX2_isContext := goodIn_r _ [11] (by decide +kernel) (by decide +kernel)
set_option maxRecDepth 20000 in
theorem gX2_targets_X2_isContext : GoodIn wsX2_targets (va_wsS RX2 79 yX2_isContext wsX2_isContext) := goodIn_app (goodIn_of _ (by decide +kernel)) ggX2_targets_X2_isContext
set_option maxRecDepth 20000 in
theorem ggX2_targets_X1_size : GoodIn wsX2_targets wsX1_size := goodIn_r _ [15, 7, 90, 91, 92, 93, 94] (by decide +kernel) (by decide +kernel)
set_option maxRecDepth 20000 in
theorem gX2_targets_X1_size : GoodIn wsX2_targets (wsV RX2 97 RX1 yX1_size wsX1_size) := goodIn_app (goodIn_of _ (by decide +kernel)) ggX2_targets_X1_size
set_option maxRecDepth 20000 in
theorem ggX2_targets_X2_allowedKind : GoodIn wsX2_targets wsX2_allowedKind := goodIn_ca (goodIn_r _ [19, 20, 21, 22, 10, 23, 24, 25, 26, 27, 28, 29, 30, 31, 32, 33, 34, 35, 36, 37, 38, 39, 40, 1, 41, 42, 43, 44, 45, 46, 5, 47, 48, 49, 50, 51, 52, 53, 54, 55, 56, 57, 58, 59, 60, 61, 62, 63, 64, 65, 66, 67, 68, 69, 70, 71, 72, 73, 74, 75, 76, 77, 78, 79, 80, 81, 82, 83, 84, 85, 86, 87, 88, 89, 90, 91, 92, 93, 94] (by decide +kernel) (by decide +kernel)) (goodIn_sub (fun _ h => List.mem_cons_of_mem _ (List.mem_append_right _ h)) (by decide +kernel))
set_option maxRecDepth 20000 in
theorem gX2_targets_X2_allowedKind : GoodIn wsX2_targets (wsV RX2 82 RX2 yX2_allowedKind wsX2_allowedKind) := goodIn_app (goodIn_of _ (by decide +kernel)) ggX2_targets_X2_allowedKind
theorem dX2_targets_0 : decode cX2_targets 0 = .ok (.aload_n 0, 1) := by decide +kernel
theorem dX2_targets_1 : decode cX2_targets 1 = .ok (.getfield 12, 3) := by decide +kernel
theorem dX2_targets_4 : decode cX2_targets 4 = .ok (.iload_n 1, 1) := by decide +kernel
theorem dX2_targets_5 : decode cX2_targets 5 = .ok (.invokevirtual 50, 3) := by decide +kernel
theorem dX2_targets_8 : decode cX2_targets 8 = .ok (.ifCond .eq 10, 3) := by decide +kernel
theorem dX2_targets_11 : decode cX2_targets 11 = .ok (.iload_n 2, 1) := by decide +kernel
theorem dX2_targets_12 : decode cX2_targets 12 = .ok (.invokestatic 79, 3) := by decide +kernel
theorem dX2_targets_15 : decode cX2_targets 15 = .ok (.ifCond .ne 5, 3) := by decide +kernel
theorem dX2_targets_18 : decode cX2_targets 18 = .ok (.iconst (-1), 1) := by decide +kernel
theorem dX2_targets_19 : decode cX2_targets 19 = .ok (.ireturn, 1) := by decide +kernel
theorem dX2_targets_20 : decode cX2_targets 20 = .ok (.iconst 0, 1) := by decide +kernel
theorem dX2_targets_21 : decode cX2_targets 21 = .ok (.istore_n 3, 1) := by decide +kernel
theorem dX2_targets_22 : decode cX2_targets 22 = .ok (.iconst 0, 1) := by decide +kernel
theorem dX2_targets_23 : decode cX2_targets 23 = .ok (.istore 4, 2) := by decide +kernel
theorem dX2_targets_25 : decode cX2_targets 25 = .ok (.iload 4, 2) := by decide +kernel
theorem dX2_targets_27 : decode cX2_targets 27 = .ok (.aload_n 0, 1) := by decide +kernel
theorem dX2_targets_28 : decode cX2_targets 28 = .ok (.getfield 12, 3) := by decide +kernel
theorem dX2_targets_31 : decode cX2_targets 31 = .ok (.invokevirtual 97, 3) := by decide +kernel
theorem dX2_targets_34 : decode cX2_targets 34 = .ok (.if_icmp .ge 23, 3) := by decide +kernel
theorem dX2_targets_37 : decode cX2_targets 37 = .ok (.aload_n 0, 1) := by decide +kernel
theorem dX2_targets_38 : decode cX2_targets 38 = .ok (.iload_n 1, 1) := by decide +kernel
theorem dX2_targets_39 : decode cX2_targets 39 = .ok (.iload 4, 2) := by decide +kernel
theorem dX2_targets_41 : decode cX2_targets 41 = .ok (.iload_n 2, 1) := by decide +kernel
theorem dX2_targets_42 : decode cX2_targets 42 = .ok (.invokevirtual 82, 3) := by decide +kernel
theorem dX2_targets_45 : decode cX2_targets 45 = .ok (.ifCond .eq 6, 3) := by decide +kernel
theorem dX2_targets_48 : decode cX2_targets 48 = .ok (.iinc 3 1, 3) := by decide +kernel
theorem dX2_targets_51 : decode cX2_targets 51 = .ok (.iinc 4 1, 3) := by decide +kernel
theorem dX2_targets_54 : decode cX2_targets 54 = .ok (.goto (-29), 3) := by decide +kernel
theorem dX2_targets_57 : decode cX2_targets 57 = .ok (.iload_n 3, 1) := by decide +kernel
theorem dX2_targets_58 : decode cX2_targets 58 = .ok (.ireturn, 1) := by decide +kernel
set_option maxRecDepth 20000 in
theorem ggX2_turned_X2_isNumber : GoodIn wsX2_turned wsX2_isNumber := goodIn_r _ [6] (by decide +kernel) (by decide +kernel)
set_option maxRecDepth 20000 in
theorem gX2_turned_X2_isNumber : GoodIn wsX2_turned (va_wsS RX2 101 yX2_isNumber wsX2_isNumber) := goodIn_app (goodIn_of _ (by decide +kernel)) ggX2_turned_X2_isNumber
set_option maxRecDepth 20000 in
theorem ggX2_turned_X2_areBitsOf : GoodIn wsX2_turned wsX2_areBitsOf := goodIn_ca (goodIn_r _ [9, 10, 11] (by decide +kernel) (by decide +kernel)) (goodIn_sub (fun _ h => List.mem_cons_of_mem _ (List.mem_append_right _ h)) (by decide +kernel))
set_option maxRecDepth 20000 in
theorem gX2_turned_X2_areBitsOf : GoodIn wsX2_turned (va_wsS RX2 89 yX2_areBitsOf wsX2_areBitsOf) := goodIn_app (goodIn_of _ (by decide +kernel)) ggX2_turned_X2_areBitsOf
set_option maxRecDepth 20000 in
theorem ggX2_turned_X2_isWhole : GoodIn wsX2_turned wsX2_isWhole := goodIn_r _ [14] (by decide +kernel) (by decide +kernel)
set_option maxRecDepth 20000 in
theorem gX2_turned_X2_isWhole : GoodIn wsX2_turned (va_wsS RX2 86 yX2_isWhole wsX2_isWhole) := goodIn_app (goodIn_of _ (by decide +kernel)) ggX2_turned_X2_isWhole
set_option maxRecDepth 20000 in
theorem ggX2_turned_X2_turnedToWhole : GoodIn wsX2_turned wsX2_turnedToWhole := goodIn_ca (goodIn_r _ [17, 12, 13, 5, 14, 18, 19, 20, 21, 22, 23, 24, 25, 26, 27, 28, 29, 30, 31, 32, 33, 34, 35, 36, 37, 38, 39, 40, 41, 42, 43, 44, 45, 46, 47, 48, 49, 50, 51, 52, 53, 54, 55, 56, 57, 58, 59, 60, 61, 62, 63, 64, 65, 66, 67, 68, 69, 70, 71, 72, 73, 74, 75, 10, 11, 76, 77, 78, 79] (by decide +kernel) (by decide +kernel)) (goodIn_sub (fun _ h => List.mem_cons_of_mem _ (List.mem_append_right _ h)) (by decide +kernel))
set_option maxRecDepth 20000 in
theorem gX2_turned_X2_turnedToWhole : GoodIn wsX2_turned (va_wsS RX2 108 yX2_turnedToWhole wsX2_turnedToWhole) := goodIn_app (goodIn_of _ (by decide +kernel)) ggX2_turned_X2_turnedToWhole
set_option maxRecDepth 20000 in
theorem ggX2_turned_X2_turnedToFloating : GoodIn wsX2_turned wsX2_turnedToFloating := goodIn_ca (goodIn_r _ [82, 12, 13, 5, 14, 21, 22, 23, 24, 25, 83, 84, 85, 29, 86, 87, 88, 89, 90, 44, 53, 91, 92, 56, 93, 31, 94, 77, 78, 58, 59, 60, 61, 62, 63, 64, 65, 66, 67, 68, 69, 95, 96, 97, 98, 99, 100, 101, 38, 102, 103, 104, 105, 106, 34, 35, 36, 37, 39, 40, 41, 42, 43, 45, 46, 47, 48, 49, 50, 51, 52, 54, 55, 57] (by decide +kernel) (by decide +kernel)) (goodIn_sub (fun _ h => List.mem_cons_of_mem _ (List.mem_append_right _ h)) (by decide +kernel))
set_option maxRecDepth 20000 in
theorem gX2_turned_X2_turnedToFloating : GoodIn wsX2_turned (va_wsS RX2 112 yX2_turnedToFloating wsX2_turnedToFloating) := goodIn_app (goodIn_of _ (by decide +kernel)) ggX2_turned_X2_turnedToFloating
theorem dX2_turned_0 : decode cX2_turned 0 = .ok (.iload_n 1, 1) := by decide +kernel
theorem dX2_turned_1 : decode cX2_turned 1 = .ok (.invokestatic 101, 3) := by decide +kernel
theorem dX2_turned_4 : decode cX2_turned 4 = .ok (.ifCond .eq 11, 3) := by decide +kernel
theorem dX2_turned_7 : decode cX2_turned 7 = .ok (.iload 4, 2) := by decide +kernel
theorem dX2_turned_9 : decode cX2_turned 9 = .ok (.invokestatic 101, 3) := by decide +kernel
theorem dX2_turned_12 : decode cX2_turned 12 = .ok (.ifCond .ne 7, 3) := by decide +kernel
theorem dX2_turned_15 : decode cX2_turned 15 = .ok (.ldc2_w 104, 3) := by decide +kernel
theorem dX2_turned_18 : decode cX2_turned 18 = .ok (.lreturn, 1) := by decide +kernel
theorem dX2_turned_19 : decode cX2_turned 19 = .ok (.lload_n 2, 1) := by decide +kernel
theorem dX2_turned_20 : decode cX2_turned 20 = .ok (.iload_n 1, 1) := by decide +kernel
theorem dX2_turned_21 : decode cX2_turned 21 = .ok (.invokestatic 89, 3) := by decide +kernel
theorem dX2_turned_24 : decode cX2_turned 24 = .ok (.ifCond .ne 7, 3) := by decide +kernel
theorem dX2_turned_27 : decode cX2_turned 27 = .ok (.ldc2_w 106, 3) := by decide +kernel
theorem dX2_turned_30 : decode cX2_turned 30 = .ok (.lreturn, 1) := by decide +kernel
theorem dX2_turned_31 : decode cX2_turned 31 = .ok (.iload 4, 2) := by decide +kernel
theorem dX2_turned_33 : decode cX2_turned 33 = .ok (.invokestatic 86, 3) := by decide +kernel
theorem dX2_turned_36 : decode cX2_turned 36 = .ok (.ifCond .eq 13, 3) := by decide +kernel
theorem dX2_turned_39 : decode cX2_turned 39 = .ok (.iload_n 1, 1) := by decide +kernel
theorem dX2_turned_40 : decode cX2_turned 40 = .ok (.lload_n 2, 1) := by decide +kernel
theorem dX2_turned_41 : decode cX2_turned 41 = .ok (.iload 4, 2) := by decide +kernel
theorem dX2_turned_43 : decode cX2_turned 43 = .ok (.invokestatic 108, 3) := by decide +kernel
theorem dX2_turned_46 : decode cX2_turned 46 = .ok (.goto 10, 3) := by decide +kernel
theorem dX2_turned_49 : decode cX2_turned 49 = .ok (.iload_n 1, 1) := by decide +kernel
end
section
theorem dX2_turned_50 : decode cX2_turned 50 = .ok (.lload_n 2, 1) := by decide +kernel
theorem dX2_turned_51 : decode cX2_turned 51 = .ok (.iload 4, 2) := by decide +kernel
theorem dX2_turned_53 : decode cX2_turned 53 = .ok (.invokestatic 112, 3) := by decide +kernel
theorem dX2_turned_56 : decode cX2_turned 56 = .ok (.lreturn, 1) := by decide +kernel
set_option maxRecDepth 20000 in
theorem ggX2_promoted_X1_has : GoodIn wsX2_promoted wsX1_has := goodIn_r _ [10, 11, 26, 27, 28, 29, 30] (by decide +kernel) (by decide +kernel)
set_option maxRecDepth 20000 in
theorem gX2_promoted_X1_has : GoodIn wsX2_promoted (wsV RX2 50 RX1 yX1_has wsX1_has) := goodIn_app (goodIn_of _ (by decide +kernel)) ggX2_promoted_X1_has
set_option maxRecDepth 20000 in
theorem ggX2_promoted_X2_withoutBox : GoodIn wsX2_promoted wsX2_withoutBox := goodIn_r _ [15, 16, 17, 14, 18] (by decide +kernel) (by decide +kernel)
set_option maxRecDepth 20000 in
theorem gX2_promoted_X2_withoutBox : GoodIn wsX2_promoted (va_wsS RX2 115 yX2_withoutBox wsX2_withoutBox) := goodIn_app (goodIn_of _ (by decide +kernel)) ggX2_promoted_X2_withoutBox
set_option maxRecDepth 20000 in
theorem ggX2_promoted_X2_isNumber : GoodIn wsX2_promoted wsX2_isNumber := goodIn_r _ [21] (by decide +kernel) (by decide +kernel)
set_option maxRecDepth 20000 in
theorem gX2_promoted_X2_isNumber : GoodIn wsX2_promoted (va_wsS RX2 101 yX2_isNumber wsX2_isNumber) := goodIn_app (goodIn_of _ (by decide +kernel)) ggX2_promoted_X2_isNumber
theorem dX2_promoted_0 : decode cX2_promoted 0 = .ok (.aload_n 0, 1) := by decide +kernel
theorem dX2_promoted_1 : decode cX2_promoted 1 = .ok (.getfield 12, 3) := by decide +kernel
theorem dX2_promoted_4 : decode cX2_promoted 4 = .ok (.iload_n 1, 1) := by decide +kernel
theorem dX2_promoted_5 : decode cX2_promoted 5 = .ok (.invokevirtual 50, 3) := by decide +kernel
theorem dX2_promoted_8 : decode cX2_promoted 8 = .ok (.ifCond .ne 5, 3) := by decide +kernel
theorem dX2_promoted_11 : decode cX2_promoted 11 = .ok (.iconst (-1), 1) := by decide +kernel
theorem dX2_promoted_12 : decode cX2_promoted 12 = .ok (.ireturn, 1) := by decide +kernel
theorem dX2_promoted_13 : decode cX2_promoted 13 = .ok (.iload_n 1, 1) := by decide +kernel
theorem dX2_promoted_14 : decode cX2_promoted 14 = .ok (.invokestatic 115, 3) := by decide +kernel
theorem dX2_promoted_17 : decode cX2_promoted 17 = .ok (.istore_n 2, 1) := by decide +kernel
theorem dX2_promoted_18 : decode cX2_promoted 18 = .ok (.iload_n 2, 1) := by decide +kernel
theorem dX2_promoted_19 : decode cX2_promoted 19 = .ok (.invokestatic 101, 3) := by decide +kernel
theorem dX2_promoted_22 : decode cX2_promoted 22 = .ok (.ifCond .eq 11, 3) := by decide +kernel
theorem dX2_promoted_25 : decode cX2_promoted 25 = .ok (.iload_n 2, 1) := by decide +kernel
theorem dX2_promoted_26 : decode cX2_promoted 26 = .ok (.iconst 4, 1) := by decide +kernel
theorem dX2_promoted_27 : decode cX2_promoted 27 = .ok (.invokestatic 118, 3) := by decide +kernel
theorem dX2_promoted_30 : decode cX2_promoted 30 = .ok (.goto 5, 3) := by decide +kernel
theorem dX2_promoted_33 : decode cX2_promoted 33 = .ok (.bipush (-2), 2) := by decide +kernel
theorem dX2_promoted_35 : decode cX2_promoted 35 = .ok (.ireturn, 1) := by decide +kernel
set_option maxRecDepth 20000 in
theorem ggX2_both_X1_has : GoodIn wsX2_both wsX1_has := goodIn_r _ [6, 7, 29, 30, 31, 32, 33] (by decide +kernel) (by decide +kernel)
set_option maxRecDepth 20000 in
theorem gX2_both_X1_has : GoodIn wsX2_both (wsV RX2 50 RX1 yX1_has wsX1_has) := goodIn_app (goodIn_of _ (by decide +kernel)) ggX2_both_X1_has
set_option maxRecDepth 20000 in
theorem ggX2_both_X2_withoutBox : GoodIn wsX2_both wsX2_withoutBox := goodIn_r _ [11, 12, 13, 10, 14] (by decide +kernel) (by decide +kernel)
set_option maxRecDepth 20000 in
theorem gX2_both_X2_withoutBox : GoodIn wsX2_both (va_wsS RX2 115 yX2_withoutBox wsX2_withoutBox) := goodIn_app (goodIn_of _ (by decide +kernel)) ggX2_both_X2_withoutBox
set_option maxRecDepth 20000 in
theorem ggX2_both_X2_isNumber : GoodIn wsX2_both wsX2_isNumber := goodIn_r _ [17] (by decide +kernel) (by decide +kernel)
set_option maxRecDepth 20000 in
theorem gX2_both_X2_isNumber : GoodIn wsX2_both (va_wsS RX2 101 yX2_isNumber wsX2_isNumber) := goodIn_app (goodIn_of _ (by decide +kernel)) ggX2_both_X2_isNumber
set_option maxRecDepth 20000 in
theorem ggX2_both_X2_promotedOfTwo : GoodIn wsX2_both wsX2_promotedOfTwo := goodIn_r _ [20, 21, 22, 23, 24] (by decide +kernel) (by decide +kernel)
set_option maxRecDepth 20000 in
theorem gX2_both_X2_promotedOfTwo : GoodIn wsX2_both (va_wsS RX2 123 yX2_promotedOfTwo wsX2_promotedOfTwo) := goodIn_app (goodIn_of _ (by decide +kernel)) ggX2_both_X2_promotedOfTwo
theorem dX2_both_0 : decode cX2_both 0 = .ok (.aload_n 0, 1) := by decide +kernel
theorem dX2_both_1 : decode cX2_both 1 = .ok (.getfield 12, 3) := by decide +kernel
theorem dX2_both_4 : decode cX2_both 4 = .ok (.iload_n 1, 1) := by decide +kernel
theorem dX2_both_5 : decode cX2_both 5 = .ok (.invokevirtual 50, 3) := by decide +kernel
theorem dX2_both_8 : decode cX2_both 8 = .ok (.ifCond .eq 14, 3) := by decide +kernel
theorem dX2_both_11 : decode cX2_both 11 = .ok (.aload_n 0, 1) := by decide +kernel
theorem dX2_both_12 : decode cX2_both 12 = .ok (.getfield 12, 3) := by decide +kernel
theorem dX2_both_15 : decode cX2_both 15 = .ok (.iload_n 2, 1) := by decide +kernel
theorem dX2_both_16 : decode cX2_both 16 = .ok (.invokevirtual 50, 3) := by decide +kernel
theorem dX2_both_19 : decode cX2_both 19 = .ok (.ifCond .ne 5, 3) := by decide +kernel
theorem dX2_both_22 : decode cX2_both 22 = .ok (.iconst (-1), 1) := by decide +kernel
theorem dX2_both_23 : decode cX2_both 23 = .ok (.ireturn, 1) := by decide +kernel
theorem dX2_both_24 : decode cX2_both 24 = .ok (.iload_n 1, 1) := by decide +kernel
theorem dX2_both_25 : decode cX2_both 25 = .ok (.invokestatic 115, 3) := by decide +kernel
theorem dX2_both_28 : decode cX2_both 28 = .ok (.istore_n 3, 1) := by decide +kernel
theorem dX2_both_29 : decode cX2_both 29 = .ok (.iload_n 2, 1) := by decide +kernel
theorem dX2_both_30 : decode cX2_both 30 = .ok (.invokestatic 115, 3) := by decide +kernel
theorem dX2_both_33 : decode cX2_both 33 = .ok (.istore 4, 2) := by decide +kernel
theorem dX2_both_35 : decode cX2_both 35 = .ok (.iload_n 3, 1) := by decide +kernel
theorem dX2_both_36 : decode cX2_both 36 = .ok (.invokestatic 101, 3) := by decide +kernel
theorem dX2_both_39 : decode cX2_both 39 = .ok (.ifCond .eq 20, 3) := by decide +kernel
theorem dX2_both_42 : decode cX2_both 42 = .ok (.iload 4, 2) := by decide +kernel
theorem dX2_both_44 : decode cX2_both 44 = .ok (.invokestatic 101, 3) := by decide +kernel
theorem dX2_both_47 : decode cX2_both 47 = .ok (.ifCond .eq 12, 3) := by decide +kernel
theorem dX2_both_50 : decode cX2_both 50 = .ok (.iload_n 3, 1) := by decide +kernel
theorem dX2_both_51 : decode cX2_both 51 = .ok (.iload 4, 2) := by decide +kernel
theorem dX2_both_53 : decode cX2_both 53 = .ok (.invokestatic 123, 3) := by decide +kernel
theorem dX2_both_56 : decode cX2_both 56 = .ok (.goto 5, 3) := by decide +kernel
theorem dX2_both_59 : decode cX2_both 59 = .ok (.bipush (-2), 2) := by decide +kernel
theorem dX2_both_61 : decode cX2_both 61 = .ok (.ireturn, 1) := by decide +kernel
set_option maxRecDepth 20000 in
theorem ggX2_conditional_X1_has : GoodIn wsX2_conditional wsX1_has := goodIn_r _ [6, 7, 50, 51, 52, 53, 54] (by decide +kernel) (by decide +kernel)
set_option maxRecDepth 20000 in
theorem gX2_conditional_X1_has : GoodIn wsX2_conditional (wsV RX2 50 RX1 yX1_has wsX1_has) := goodIn_app (goodIn_of _ (by decide +kernel)) ggX2_conditional_X1_has
set_option maxRecDepth 20000 in
theorem ggX2_conditional_X2_withoutBox : GoodIn wsX2_conditional wsX2_withoutBox := goodIn_r _ [11, 12, 13, 10, 14] (by decide +kernel) (by decide +kernel)
set_option maxRecDepth 20000 in
theorem gX2_conditional_X2_withoutBox : GoodIn wsX2_conditional (va_wsS RX2 115 yX2_withoutBox wsX2_withoutBox) := goodIn_app (goodIn_of _ (by decide +kernel)) ggX2_conditional_X2_withoutBox
set_option maxRecDepth 20000 in
theorem ggX2_conditional_X2_isNumber : GoodIn wsX2_conditional wsX2_isNumber := goodIn_r _ [17] (by decide +kernel) (by decide +kernel)
set_option maxRecDepth 20000 in
theorem gX2_conditional_X2_isNumber : GoodIn wsX2_conditional (va_wsS RX2 101 yX2_isNumber wsX2_isNumber) := goodIn_app (goodIn_of _ (by decide +kernel)) ggX2_conditional_X2_isNumber
set_option maxRecDepth 20000 in
theorem ggX2_conditional_X2_isByteAndShort : GoodIn wsX2_conditional wsX2_isByteAndShort := goodIn_r _ [20] (by decide +kernel) (by decide +kernel)
set_option maxRecDepth 20000 in
theorem gX2_conditional_X2_isByteAndShort : GoodIn wsX2_conditional (va_wsS RX2 126 yX2_isByteAndShort wsX2_isByteAndShort) := goodIn_app (goodIn_of _ (by decide +kernel)) ggX2_conditional_X2_isByteAndShort
set_option maxRecDepth 20000 in
theorem ggX2_conditional_X2_promotedOfTwo : GoodIn wsX2_conditional wsX2_promotedOfTwo := goodIn_r _ [23, 24, 25, 26, 27] (by decide +kernel) (by decide +kernel)
set_option maxRecDepth 20000 in
theorem gX2_conditional_X2_promotedOfTwo : GoodIn wsX2_conditional (va_wsS RX2 123 yX2_promotedOfTwo wsX2_promotedOfTwo) := goodIn_app (goodIn_of _ (by decide +kernel)) ggX2_conditional_X2_promotedOfTwo
set_option maxRecDepth 20000 in
theorem ggX2_conditional_X2_boxed : GoodIn wsX2_conditional wsX2_boxed := goodIn_r _ [30, 31, 32, 10, 33] (by decide +kernel) (by decide +kernel)
set_option maxRecDepth 20000 in
theorem gX2_conditional_X2_boxed : GoodIn wsX2_conditional (va_wsS RX2 129 yX2_boxed wsX2_boxed) := goodIn_app (goodIn_of _ (by decide +kernel)) ggX2_conditional_X2_boxed
set_option maxRecDepth 20000 in
theorem ggX2_conditional_X2_conditionalOfReferences : GoodIn wsX2_conditional wsX2_conditionalOfReferences := goodIn_ca (goodIn_r _ [37, 1, 38, 39, 40, 5, 41, 42, 43, 44, 45, 46, 47, 48, 49, 50, 51, 52, 53, 54] (by decide +kernel) (by decide +kernel)) (goodIn_sub (fun _ h => List.mem_cons_of_mem _ (List.mem_append_right _ h)) (by decide +kernel))
set_option maxRecDepth 20000 in
theorem gX2_conditional_X2_conditionalOfReferences : GoodIn wsX2_conditional (wsV RX2 132 RX2 yX2_conditionalOfReferences wsX2_conditionalOfReferences) := goodIn_app (goodIn_of _ (by decide +kernel)) ggX2_conditional_X2_conditionalOfReferences
theorem dX2_conditional_0 : decode cX2_conditional 0 = .ok (.aload_n 0, 1) := by decide +kernel
theorem dX2_conditional_1 : decode cX2_conditional 1 = .ok (.getfield 12, 3) := by decide +kernel
theorem dX2_conditional_4 : decode cX2_conditional 4 = .ok (.iload_n 1, 1) := by decide +kernel
theorem dX2_conditional_5 : decode cX2_conditional 5 = .ok (.invokevirtual 50, 3) := by decide +kernel
theorem dX2_conditional_8 : decode cX2_conditional 8 = .ok (.ifCond .eq 14, 3) := by decide +kernel
theorem dX2_conditional_11 : decode cX2_conditional 11 = .ok (.aload_n 0, 1) := by decide +kernel
theorem dX2_conditional_12 : decode cX2_conditional 12 = .ok (.getfield 12, 3) := by decide +kernel
theorem dX2_conditional_15 : decode cX2_conditional 15 = .ok (.iload_n 2, 1) := by decide +kernel
theorem dX2_conditional_16 : decode cX2_conditional 16 = .ok (.invokevirtual 50, 3) := by decide +kernel
theorem dX2_conditional_19 : decode cX2_conditional 19 = .ok (.ifCond .ne 5, 3) := by decide +kernel
theorem dX2_conditional_22 : decode cX2_conditional 22 = .ok (.iconst (-1), 1) := by decide +kernel
theorem dX2_conditional_23 : decode cX2_conditional 23 = .ok (.ireturn, 1) := by decide +kernel
theorem dX2_conditional_24 : decode cX2_conditional 24 = .ok (.iload_n 1, 1) := by decide +kernel
theorem dX2_conditional_25 : decode cX2_conditional 25 = .ok (.iload_n 2, 1) := by decide +kernel
theorem dX2_conditional_26 : decode cX2_conditional 26 = .ok (.if_icmp .ne 5, 3) := by decide +kernel
theorem dX2_conditional_29 : decode cX2_conditional 29 = .ok (.iload_n 1, 1) := by decide +kernel
theorem dX2_conditional_30 : decode cX2_conditional 30 = .ok (.ireturn, 1) := by decide +kernel
theorem dX2_conditional_31 : decode cX2_conditional 31 = .ok (.iload_n 1, 1) := by decide +kernel
theorem dX2_conditional_32 : decode cX2_conditional 32 = .ok (.invokestatic 115, 3) := by decide +kernel
theorem dX2_conditional_35 : decode cX2_conditional 35 = .ok (.istore_n 3, 1) := by decide +kernel
theorem dX2_conditional_36 : decode cX2_conditional 36 = .ok (.iload_n 2, 1) := by decide +kernel
theorem dX2_conditional_37 : decode cX2_conditional 37 = .ok (.invokestatic 115, 3) := by decide +kernel
theorem dX2_conditional_40 : decode cX2_conditional 40 = .ok (.istore 4, 2) := by decide +kernel
theorem dX2_conditional_42 : decode cX2_conditional 42 = .ok (.iload_n 3, 1) := by decide +kernel
theorem dX2_conditional_43 : decode cX2_conditional 43 = .ok (.iload 4, 2) := by decide +kernel
theorem dX2_conditional_45 : decode cX2_conditional 45 = .ok (.if_icmp .ne 5, 3) := by decide +kernel
theorem dX2_conditional_48 : decode cX2_conditional 48 = .ok (.iload_n 3, 1) := by decide +kernel
theorem dX2_conditional_49 : decode cX2_conditional 49 = .ok (.ireturn, 1) := by decide +kernel
theorem dX2_conditional_50 : decode cX2_conditional 50 = .ok (.iload_n 3, 1) := by decide +kernel
theorem dX2_conditional_51 : decode cX2_conditional 51 = .ok (.invokestatic 101, 3) := by decide +kernel
theorem dX2_conditional_54 : decode cX2_conditional 54 = .ok (.ifCond .eq 31, 3) := by decide +kernel
theorem dX2_conditional_57 : decode cX2_conditional 57 = .ok (.iload 4, 2) := by decide +kernel
theorem dX2_conditional_59 : decode cX2_conditional 59 = .ok (.invokestatic 101, 3) := by decide +kernel
theorem dX2_conditional_62 : decode cX2_conditional 62 = .ok (.ifCond .eq 23, 3) := by decide +kernel
theorem dX2_conditional_65 : decode cX2_conditional 65 = .ok (.iload_n 3, 1) := by decide +kernel
theorem dX2_conditional_66 : decode cX2_conditional 66 = .ok (.iload 4, 2) := by decide +kernel
theorem dX2_conditional_68 : decode cX2_conditional 68 = .ok (.invokestatic 126, 3) := by decide +kernel
theorem dX2_conditional_71 : decode cX2_conditional 71 = .ok (.ifCond .eq 7, 3) := by decide +kernel
theorem dX2_conditional_74 : decode cX2_conditional 74 = .ok (.iconst 3, 1) := by decide +kernel
theorem dX2_conditional_75 : decode cX2_conditional 75 = .ok (.goto 9, 3) := by decide +kernel
theorem dX2_conditional_78 : decode cX2_conditional 78 = .ok (.iload_n 3, 1) := by decide +kernel
theorem dX2_conditional_79 : decode cX2_conditional 79 = .ok (.iload 4, 2) := by decide +kernel
theorem dX2_conditional_81 : decode cX2_conditional 81 = .ok (.invokestatic 123, 3) := by decide +kernel
theorem dX2_conditional_84 : decode cX2_conditional 84 = .ok (.ireturn, 1) := by decide +kernel
theorem dX2_conditional_85 : decode cX2_conditional 85 = .ok (.aload_n 0, 1) := by decide +kernel
theorem dX2_conditional_86 : decode cX2_conditional 86 = .ok (.iload_n 1, 1) := by decide +kernel
theorem dX2_conditional_87 : decode cX2_conditional 87 = .ok (.invokestatic 129, 3) := by decide +kernel
theorem dX2_conditional_90 : decode cX2_conditional 90 = .ok (.iload_n 2, 1) := by decide +kernel
theorem dX2_conditional_91 : decode cX2_conditional 91 = .ok (.invokestatic 129, 3) := by decide +kernel
theorem dX2_conditional_94 : decode cX2_conditional 94 = .ok (.invokevirtual 132, 3) := by decide +kernel
theorem dX2_conditional_97 : decode cX2_conditional 97 = .ok (.ireturn, 1) := by decide +kernel
theorem dX2_isPrimitive_0 : decode cX2_isPrimitive 0 = .ok (.iload_n 0, 1) := by decide +kernel
theorem dX2_isPrimitive_1 : decode cX2_isPrimitive 1 = .ok (.ifCond .lt 13, 3) := by decide +kernel
theorem dX2_isPrimitive_4 : decode cX2_isPrimitive 4 = .ok (.iload_n 0, 1) := by decide +kernel
theorem dX2_isPrimitive_5 : decode cX2_isPrimitive 5 = .ok (.bipush 7, 2) := by decide +kernel
theorem dX2_isPrimitive_7 : decode cX2_isPrimitive 7 = .ok (.if_icmp .gt 7, 3) := by decide +kernel
theorem dX2_isPrimitive_10 : decode cX2_isPrimitive 10 = .ok (.iconst 1, 1) := by decide +kernel
theorem dX2_isPrimitive_11 : decode cX2_isPrimitive 11 = .ok (.goto 4, 3) := by decide +kernel
theorem dX2_isPrimitive_14 : decode cX2_isPrimitive 14 = .ok (.iconst 0, 1) := by decide +kernel
theorem dX2_isPrimitive_15 : decode cX2_isPrimitive 15 = .ok (.ireturn, 1) := by decide +kernel
theorem dX2_isNumber_0 : decode cX2_isNumber 0 = .ok (.iload_n 0, 1) := by decide +kernel
theorem dX2_isNumber_1 : decode cX2_isNumber 1 = .ok (.iconst 1, 1) := by decide +kernel
theorem dX2_isNumber_2 : decode cX2_isNumber 2 = .ok (.if_icmp .lt 13, 3) := by decide +kernel
theorem dX2_isNumber_5 : decode cX2_isNumber 5 = .ok (.iload_n 0, 1) := by decide +kernel
theorem dX2_isNumber_6 : decode cX2_isNumber 6 = .ok (.bipush 7, 2) := by decide +kernel
theorem dX2_isNumber_8 : decode cX2_isNumber 8 = .ok (.if_icmp .gt 7, 3) := by decide +kernel
theorem dX2_isNumber_11 : decode cX2_isNumber 11 = .ok (.iconst 1, 1) := by decide +kernel
theorem dX2_isNumber_12 : decode cX2_isNumber 12 = .ok (.goto 4, 3) := by decide +kernel
theorem dX2_isNumber_15 : decode cX2_isNumber 15 = .ok (.iconst 0, 1) := by decide +kernel
theorem dX2_isNumber_16 : decode cX2_isNumber 16 = .ok (.ireturn, 1) := by decide +kernel
theorem dX2_isWhole_0 : decode cX2_isWhole 0 = .ok (.iload_n 0, 1) := by decide +kernel
theorem dX2_isWhole_1 : decode cX2_isWhole 1 = .ok (.iconst 1, 1) := by decide +kernel
theorem dX2_isWhole_2 : decode cX2_isWhole 2 = .ok (.if_icmp .lt 12, 3) := by decide +kernel
theorem dX2_isWhole_5 : decode cX2_isWhole 5 = .ok (.iload_n 0, 1) := by decide +kernel
theorem dX2_isWhole_6 : decode cX2_isWhole 6 = .ok (.iconst 5, 1) := by decide +kernel
theorem dX2_isWhole_7 : decode cX2_isWhole 7 = .ok (.if_icmp .gt 7, 3) := by decide +kernel
theorem dX2_isWhole_10 : decode cX2_isWhole 10 = .ok (.iconst 1, 1) := by decide +kernel
theorem dX2_isWhole_11 : decode cX2_isWhole 11 = .ok (.goto 4, 3) := by decide +kernel
theorem dX2_isWhole_14 : decode cX2_isWhole 14 = .ok (.iconst 0, 1) := by decide +kernel
theorem dX2_isWhole_15 : decode cX2_isWhole 15 = .ok (.ireturn, 1) := by decide +kernel
theorem dX2_isBox_0 : decode cX2_isBox 0 = .ok (.iload_n 0, 1) := by decide +kernel
theorem dX2_isBox_1 : decode cX2_isBox 1 = .ok (.bipush 8, 2) := by decide +kernel
theorem dX2_isBox_3 : decode cX2_isBox 3 = .ok (.if_icmp .lt 13, 3) := by decide +kernel
theorem dX2_isBox_6 : decode cX2_isBox 6 = .ok (.iload_n 0, 1) := by decide +kernel
theorem dX2_isBox_7 : decode cX2_isBox 7 = .ok (.bipush 15, 2) := by decide +kernel
theorem dX2_isBox_9 : decode cX2_isBox 9 = .ok (.if_icmp .gt 7, 3) := by decide +kernel
theorem dX2_isBox_12 : decode cX2_isBox 12 = .ok (.iconst 1, 1) := by decide +kernel
theorem dX2_isBox_13 : decode cX2_isBox 13 = .ok (.goto 4, 3) := by decide +kernel
theorem dX2_isBox_16 : decode cX2_isBox 16 = .ok (.iconst 0, 1) := by decide +kernel
theorem dX2_isBox_17 : decode cX2_isBox 17 = .ok (.ireturn, 1) := by decide +kernel
set_option maxRecDepth 20000 in
theorem ggX2_boxed_X2_isPrimitive : GoodIn wsX2_boxed wsX2_isPrimitive := goodIn_r _ [4] (by decide +kernel) (by decide +kernel)
set_option maxRecDepth 20000 in
theorem gX2_boxed_X2_isPrimitive : GoodIn wsX2_boxed (va_wsS RX2 72 yX2_isPrimitive wsX2_isPrimitive) := goodIn_app (goodIn_of _ (by decide +kernel)) ggX2_boxed_X2_isPrimitive
theorem dX2_boxed_0 : decode cX2_boxed 0 = .ok (.iload_n 0, 1) := by decide +kernel
theorem dX2_boxed_1 : decode cX2_boxed 1 = .ok (.invokestatic 72, 3) := by decide +kernel
theorem dX2_boxed_4 : decode cX2_boxed 4 = .ok (.ifCond .eq 10, 3) := by decide +kernel
theorem dX2_boxed_7 : decode cX2_boxed 7 = .ok (.iload_n 0, 1) := by decide +kernel
theorem dX2_boxed_8 : decode cX2_boxed 8 = .ok (.bipush 8, 2) := by decide +kernel
theorem dX2_boxed_10 : decode cX2_boxed 10 = .ok (.iadd, 1) := by decide +kernel
theorem dX2_boxed_11 : decode cX2_boxed 11 = .ok (.goto 4, 3) := by decide +kernel
theorem dX2_boxed_14 : decode cX2_boxed 14 = .ok (.iload_n 0, 1) := by decide +kernel
theorem dX2_boxed_15 : decode cX2_boxed 15 = .ok (.ireturn, 1) := by decide +kernel
set_option maxRecDepth 20000 in
theorem ggX2_withoutBox_X2_isBox : GoodIn wsX2_withoutBox wsX2_isBox := goodIn_r _ [4] (by decide +kernel) (by decide +kernel)
set_option maxRecDepth 20000 in
theorem gX2_withoutBox_X2_isBox : GoodIn wsX2_withoutBox (va_wsS RX2 135 yX2_isBox wsX2_isBox) := goodIn_app (goodIn_of _ (by decide +kernel)) ggX2_withoutBox_X2_isBox
theorem dX2_withoutBox_0 : decode cX2_withoutBox 0 = .ok (.iload_n 0, 1) := by decide +kernel
theorem dX2_withoutBox_1 : decode cX2_withoutBox 1 = .ok (.invokestatic 135, 3) := by decide +kernel
theorem dX2_withoutBox_4 : decode cX2_withoutBox 4 = .ok (.ifCond .eq 10, 3) := by decide +kernel
theorem dX2_withoutBox_7 : decode cX2_withoutBox 7 = .ok (.iload_n 0, 1) := by decide +kernel
theorem dX2_withoutBox_8 : decode cX2_withoutBox 8 = .ok (.bipush 8, 2) := by decide +kernel
theorem dX2_withoutBox_10 : decode cX2_withoutBox 10 = .ok (.isub, 1) := by decide +kernel
theorem dX2_withoutBox_11 : decode cX2_withoutBox 11 = .ok (.goto 4, 3) := by decide +kernel
theorem dX2_withoutBox_14 : decode cX2_withoutBox 14 = .ok (.iload_n 0, 1) := by decide +kernel
theorem dX2_withoutBox_15 : decode cX2_withoutBox 15 = .ok (.ireturn, 1) := by decide +kernel
theorem dX2_isContext_0 : decode cX2_isContext 0 = .ok (.iload_n 0, 1) := by decide +kernel
theorem dX2_isContext_1 : decode cX2_isContext 1 = .ok (.ifCond .lt 12, 3) := by decide +kernel
theorem dX2_isContext_4 : decode cX2_isContext 4 = .ok (.iload_n 0, 1) := by decide +kernel
theorem dX2_isContext_5 : decode cX2_isContext 5 = .ok (.iconst 5, 1) := by decide +kernel
theorem dX2_isContext_6 : decode cX2_isContext 6 = .ok (.if_icmp .gt 7, 3) := by decide +kernel
theorem dX2_isContext_9 : decode cX2_isContext 9 = .ok (.iconst 1, 1) := by decide +kernel
theorem dX2_isContext_10 : decode cX2_isContext 10 = .ok (.goto 4, 3) := by decide +kernel
theorem dX2_isContext_13 : decode cX2_isContext 13 = .ok (.iconst 0, 1) := by decide +kernel
theorem dX2_isContext_14 : decode cX2_isContext 14 = .ok (.ireturn, 1) := by decide +kernel
set_option maxRecDepth 20000 in
theorem ggX2_allowedKind_X2_isNumber : GoodIn wsX2_allowedKind wsX2_isNumber := goodIn_r _ [5] (by decide +kernel) (by decide +kernel)
set_option maxRecDepth 20000 in
theorem gX2_allowedKind_X2_isNumber : GoodIn wsX2_allowedKind (va_wsS RX2 101 yX2_isNumber wsX2_isNumber) := goodIn_app (goodIn_of _ (by decide +kernel)) ggX2_allowedKind_X2_isNumber
set_option maxRecDepth 20000 in
theorem ggX2_allowedKind_X2_stepsBetween : GoodIn wsX2_allowedKind wsX2_stepsBetween := goodIn_ca (goodIn_r _ [9, 10, 11, 4, 12, 13, 14, 15, 16, 17, 18, 2, 3, 5, 19, 20, 21, 22, 23, 24, 25, 26, 27, 28, 29, 30, 31, 32, 33, 34, 35, 36, 37, 38, 39, 40, 41, 42, 43, 44, 45, 46, 47, 48, 49, 50, 51, 52, 53, 54, 55, 56, 57, 58, 59, 60, 61, 62, 63, 64, 65, 66, 67, 68, 69, 70, 71, 72, 73, 74, 75, 76, 77, 78] (by decide +kernel) (by decide +kernel)) (goodIn_sub (fun _ h => List.mem_cons_of_mem _ (List.mem_append_right _ h)) (by decide +kernel))
set_option maxRecDepth 20000 in
theorem gX2_allowedKind_X2_stepsBetween : GoodIn wsX2_allowedKind (wsV RX2 138 RX2 yX2_stepsBetween wsX2_stepsBetween) := goodIn_app (goodIn_of _ (by decide +kernel)) ggX2_allowedKind_X2_stepsBetween
theorem dX2_allowedKind_0 : decode cX2_allowedKind 0 = .ok (.iload_n 3, 1) := by decide +kernel
theorem dX2_allowedKind_1 : decode cX2_allowedKind 1 = .ok (.iconst 4, 1) := by decide +kernel
theorem dX2_allowedKind_2 : decode cX2_allowedKind 2 = .ok (.if_icmp .ne 9, 3) := by decide +kernel
theorem dX2_allowedKind_5 : decode cX2_allowedKind 5 = .ok (.iload_n 2, 1) := by decide +kernel
theorem dX2_allowedKind_6 : decode cX2_allowedKind 6 = .ok (.bipush 21, 2) := by decide +kernel
theorem dX2_allowedKind_8 : decode cX2_allowedKind 8 = .ok (.if_icmp .ne 15, 3) := by decide +kernel
theorem dX2_allowedKind_11 : decode cX2_allowedKind 11 = .ok (.iload_n 3, 1) := by decide +kernel
theorem dX2_allowedKind_12 : decode cX2_allowedKind 12 = .ok (.iconst 5, 1) := by decide +kernel
theorem dX2_allowedKind_13 : decode cX2_allowedKind 13 = .ok (.if_icmp .ne 12, 3) := by decide +kernel
theorem dX2_allowedKind_16 : decode cX2_allowedKind 16 = .ok (.iload_n 2, 1) := by decide +kernel
theorem dX2_allowedKind_17 : decode cX2_allowedKind 17 = .ok (.invokestatic 101, 3) := by decide +kernel
theorem dX2_allowedKind_20 : decode cX2_allowedKind 20 = .ok (.ifCond .ne 5, 3) := by decide +kernel
theorem dX2_allowedKind_23 : decode cX2_allowedKind 23 = .ok (.iconst 0, 1) := by decide +kernel
theorem dX2_allowedKind_24 : decode cX2_allowedKind 24 = .ok (.ireturn, 1) := by decide +kernel
theorem dX2_allowedKind_25 : decode cX2_allowedKind 25 = .ok (.iload_n 3, 1) := by decide +kernel
theorem dX2_allowedKind_26 : decode cX2_allowedKind 26 = .ok (.iconst 4, 1) := by decide +kernel
theorem dX2_allowedKind_27 : decode cX2_allowedKind 27 = .ok (.if_icmp .ne 14, 3) := by decide +kernel
theorem dX2_allowedKind_30 : decode cX2_allowedKind 30 = .ok (.iload_n 1, 1) := by decide +kernel
theorem dX2_allowedKind_31 : decode cX2_allowedKind 31 = .ok (.bipush 21, 2) := by decide +kernel
theorem dX2_allowedKind_33 : decode cX2_allowedKind 33 = .ok (.if_icmp .eq 8, 3) := by decide +kernel
theorem dX2_allowedKind_36 : decode cX2_allowedKind 36 = .ok (.bipush 12, 2) := by decide +kernel
theorem dX2_allowedKind_38 : decode cX2_allowedKind 38 = .ok (.goto 9, 3) := by decide +kernel
theorem dX2_allowedKind_41 : decode cX2_allowedKind 41 = .ok (.aload_n 0, 1) := by decide +kernel
theorem dX2_allowedKind_42 : decode cX2_allowedKind 42 = .ok (.iload_n 1, 1) := by decide +kernel
theorem dX2_allowedKind_43 : decode cX2_allowedKind 43 = .ok (.iload_n 2, 1) := by decide +kernel
theorem dX2_allowedKind_44 : decode cX2_allowedKind 44 = .ok (.invokevirtual 138, 3) := by decide +kernel
theorem dX2_allowedKind_47 : decode cX2_allowedKind 47 = .ok (.istore 4, 2) := by decide +kernel
theorem dX2_allowedKind_49 : decode cX2_allowedKind 49 = .ok (.getstatic 141, 3) := by decide +kernel
theorem dX2_allowedKind_52 : decode cX2_allowedKind 52 = .ok (.iload_n 3, 1) := by decide +kernel
theorem dX2_allowedKind_53 : decode cX2_allowedKind 53 = .ok (.iaload, 1) := by decide +kernel
theorem dX2_allowedKind_54 : decode cX2_allowedKind 54 = .ok (.iload 4, 2) := by decide +kernel
theorem dX2_allowedKind_56 : decode cX2_allowedKind 56 = .ok (.ishr, 1) := by decide +kernel
theorem dX2_allowedKind_57 : decode cX2_allowedKind 57 = .ok (.iconst 1, 1) := by decide +kernel
theorem dX2_allowedKind_58 : decode cX2_allowedKind 58 = .ok (.iand, 1) := by decide +kernel
theorem dX2_allowedKind_59 : decode cX2_allowedKind 59 = .ok (.iconst 1, 1) := by decide +kernel
theorem dX2_allowedKind_60 : decode cX2_allowedKind 60 = .ok (.if_icmp .ne 8, 3) := by decide +kernel
theorem dX2_allowedKind_63 : decode cX2_allowedKind 63 = .ok (.iload 4, 2) := by decide +kernel
theorem dX2_allowedKind_65 : decode cX2_allowedKind 65 = .ok (.goto 4, 3) := by decide +kernel
theorem dX2_allowedKind_68 : decode cX2_allowedKind 68 = .ok (.iconst 0, 1) := by decide +kernel
theorem dX2_allowedKind_69 : decode cX2_allowedKind 69 = .ok (.ireturn, 1) := by decide +kernel
set_option maxRecDepth 20000 in
theorem ggX2_stepsBetween_X2_isPrimitive : GoodIn wsX2_stepsBetween wsX2_isPrimitive := goodIn_r _ [4] (by decide +kernel) (by decide +kernel)
set_option maxRecDepth 20000 in
theorem gX2_stepsBetween_X2_isPrimitive : GoodIn wsX2_stepsBetween (va_wsS RX2 72 yX2_isPrimitive wsX2_isPrimitive) := goodIn_app (goodIn_of _ (by decide +kernel)) ggX2_stepsBetween_X2_isPrimitive
set_option maxRecDepth 20000 in
theorem ggX2_stepsBetween_X2_stepBetweenPrimitives : GoodIn wsX2_stepsBetween wsX2_stepBetweenPrimitives := goodIn_r _ [7, 8, 9, 3, 10, 11, 12, 13] (by decide +kernel) (by decide +kernel)
set_option maxRecDepth 20000 in
theorem gX2_stepsBetween_X2_stepBetweenPrimitives : GoodIn wsX2_stepsBetween (va_wsS RX2 144 yX2_stepBetweenPrimitives wsX2_stepBetweenPrimitives) := goodIn_app (goodIn_of _ (by decide +kernel)) ggX2_stepsBetween_X2_stepBetweenPrimitives
set_option maxRecDepth 20000 in
theorem ggX2_stepsBetween_X2_stepsByBoxing : GoodIn wsX2_stepsBetween wsX2_stepsByBoxing := goodIn_ca (goodIn_r _ [17, 18, 19, 20, 3, 21, 1, 2, 4, 22, 23, 24, 25, 26, 27, 28, 29, 30, 65, 66, 67, 68, 69, 70, 71, 72, 73] (by decide +kernel) (by decide +kernel)) (goodIn_sub (fun _ h => List.mem_cons_of_mem _ (List.mem_append_right _ h)) (by decide +kernel))
set_option maxRecDepth 20000 in
theorem gX2_stepsBetween_X2_stepsByBoxing : GoodIn wsX2_stepsBetween (wsV RX2 147 RX2 yX2_stepsByBoxing wsX2_stepsByBoxing) := goodIn_app (goodIn_of _ (by decide +kernel)) ggX2_stepsBetween_X2_stepsByBoxing
set_option maxRecDepth 20000 in
theorem ggX2_stepsBetween_X2_stepsByUnboxing : GoodIn wsX2_stepsBetween wsX2_stepsByUnboxing := goodIn_ca (goodIn_r _ [34, 18, 35, 36, 3, 37, 19, 20, 21, 1, 2, 4, 38, 39, 40, 25, 41, 42, 43, 44, 45, 46, 47, 48, 23, 24, 26, 27, 28, 29, 30, 49, 50, 51, 52, 53, 54, 55, 56, 57, 58, 59, 60, 8, 9, 10, 11, 12, 13, 65, 66, 67, 68, 69, 70, 71, 72, 73] (by decide +kernel) (by decide +kernel)) (goodIn_sub (fun _ h => List.mem_cons_of_mem _ (List.mem_append_right _ h)) (by decide +kernel))
set_option maxRecDepth 20000 in
theorem gX2_stepsBetween_X2_stepsByUnboxing : GoodIn wsX2_stepsBetween (wsV RX2 150 RX2 yX2_stepsByUnboxing wsX2_stepsByUnboxing) := goodIn_app (goodIn_of _ (by decide +kernel)) ggX2_stepsBetween_X2_stepsByUnboxing
set_option maxRecDepth 20000 in
theorem ggX2_stepsBetween_X2_stepBetweenReferences : GoodIn wsX2_stepsBetween wsX2_stepBetweenReferences := goodIn_ca (goodIn_r _ [64, 18, 22, 23, 24, 25, 26, 27, 28, 29, 30, 38, 39, 40, 41, 42, 43, 44, 45, 46, 47, 48, 49, 50, 51, 52, 53, 54, 55, 56, 57, 65, 66, 67, 68, 69, 70, 71, 72, 73] (by decide +kernel) (by decide +kernel)) (goodIn_sub (fun _ h => List.mem_cons_of_mem _ (List.mem_append_right _ h)) (by decide +kernel))
set_option maxRecDepth 20000 in
theorem gX2_stepsBetween_X2_stepBetweenReferences : GoodIn wsX2_stepsBetween (wsV RX2 153 RX2 yX2_stepBetweenReferences wsX2_stepBetweenReferences) := goodIn_app (goodIn_of _ (by decide +kernel)) ggX2_stepsBetween_X2_stepBetweenReferences
theorem dX2_stepsBetween_0 : decode cX2_stepsBetween 0 = .ok (.iload_n 1, 1) := by decide +kernel
theorem dX2_stepsBetween_1 : decode cX2_stepsBetween 1 = .ok (.iload_n 2, 1) := by decide +kernel
theorem dX2_stepsBetween_2 : decode cX2_stepsBetween 2 = .ok (.if_icmp .ne 5, 3) := by decide +kernel
theorem dX2_stepsBetween_5 : decode cX2_stepsBetween 5 = .ok (.iconst 1, 1) := by decide +kernel
theorem dX2_stepsBetween_6 : decode cX2_stepsBetween 6 = .ok (.ireturn, 1) := by decide +kernel
theorem dX2_stepsBetween_7 : decode cX2_stepsBetween 7 = .ok (.iload_n 1, 1) := by decide +kernel
theorem dX2_stepsBetween_8 : decode cX2_stepsBetween 8 = .ok (.invokestatic 72, 3) := by decide +kernel
theorem dX2_stepsBetween_11 : decode cX2_stepsBetween 11 = .ok (.ifCond .eq 25, 3) := by decide +kernel
theorem dX2_stepsBetween_14 : decode cX2_stepsBetween 14 = .ok (.iload_n 2, 1) := by decide +kernel
theorem dX2_stepsBetween_15 : decode cX2_stepsBetween 15 = .ok (.invokestatic 72, 3) := by decide +kernel
theorem dX2_stepsBetween_18 : decode cX2_stepsBetween 18 = .ok (.ifCond .eq 11, 3) := by decide +kernel
theorem dX2_stepsBetween_21 : decode cX2_stepsBetween 21 = .ok (.iload_n 1, 1) := by decide +kernel
theorem dX2_stepsBetween_22 : decode cX2_stepsBetween 22 = .ok (.iload_n 2, 1) := by decide +kernel
theorem dX2_stepsBetween_23 : decode cX2_stepsBetween 23 = .ok (.invokestatic 144, 3) := by decide +kernel
theorem dX2_stepsBetween_26 : decode cX2_stepsBetween 26 = .ok (.goto 9, 3) := by decide +kernel
theorem dX2_stepsBetween_29 : decode cX2_stepsBetween 29 = .ok (.aload_n 0, 1) := by decide +kernel
theorem dX2_stepsBetween_30 : decode cX2_stepsBetween 30 = .ok (.iload_n 1, 1) := by decide +kernel
theorem dX2_stepsBetween_31 : decode cX2_stepsBetween 31 = .ok (.iload_n 2, 1) := by decide +kernel
theorem dX2_stepsBetween_32 : decode cX2_stepsBetween 32 = .ok (.invokevirtual 147, 3) := by decide +kernel
theorem dX2_stepsBetween_35 : decode cX2_stepsBetween 35 = .ok (.ireturn, 1) := by decide +kernel
theorem dX2_stepsBetween_36 : decode cX2_stepsBetween 36 = .ok (.iload_n 2, 1) := by decide +kernel
theorem dX2_stepsBetween_37 : decode cX2_stepsBetween 37 = .ok (.invokestatic 72, 3) := by decide +kernel
theorem dX2_stepsBetween_40 : decode cX2_stepsBetween 40 = .ok (.ifCond .eq 12, 3) := by decide +kernel
theorem dX2_stepsBetween_43 : decode cX2_stepsBetween 43 = .ok (.aload_n 0, 1) := by decide +kernel
theorem dX2_stepsBetween_44 : decode cX2_stepsBetween 44 = .ok (.iload_n 1, 1) := by decide +kernel
theorem dX2_stepsBetween_45 : decode cX2_stepsBetween 45 = .ok (.iload_n 2, 1) := by decide +kernel
theorem dX2_stepsBetween_46 : decode cX2_stepsBetween 46 = .ok (.invokevirtual 150, 3) := by decide +kernel
theorem dX2_stepsBetween_49 : decode cX2_stepsBetween 49 = .ok (.goto 9, 3) := by decide +kernel
theorem dX2_stepsBetween_52 : decode cX2_stepsBetween 52 = .ok (.aload_n 0, 1) := by decide +kernel
theorem dX2_stepsBetween_53 : decode cX2_stepsBetween 53 = .ok (.iload_n 1, 1) := by decide +kernel
theorem dX2_stepsBetween_54 : decode cX2_stepsBetween 54 = .ok (.iload_n 2, 1) := by decide +kernel
theorem dX2_stepsBetween_55 : decode cX2_stepsBetween 55 = .ok (.invokevirtual 153, 3) := by decide +kernel
theorem dX2_stepsBetween_58 : decode cX2_stepsBetween 58 = .ok (.ireturn, 1) := by decide +kernel
set_option maxRecDepth 20000 in
theorem ggX2_stepBetweenPrimitives_X2_isWider : GoodIn wsX2_stepBetweenPrimitives wsX2_isWider := goodIn_r _ [4, 5, 6, 3, 7] (by decide +kernel) (by decide +kernel)
set_option maxRecDepth 20000 in
theorem gX2_stepBetweenPrimitives_X2_isWider : GoodIn wsX2_stepBetweenPrimitives (va_wsS RX2 156 yX2_isWider wsX2_isWider) := goodIn_app (goodIn_of _ (by decide +kernel)) ggX2_stepBetweenPrimitives_X2_isWider
theorem dX2_stepBetweenPrimitives_0 : decode cX2_stepBetweenPrimitives 0 = .ok (.iload_n 0, 1) := by decide +kernel
theorem dX2_stepBetweenPrimitives_1 : decode cX2_stepBetweenPrimitives 1 = .ok (.ifCond .eq 7, 3) := by decide +kernel
theorem dX2_stepBetweenPrimitives_4 : decode cX2_stepBetweenPrimitives 4 = .ok (.iload_n 1, 1) := by decide +kernel
theorem dX2_stepBetweenPrimitives_5 : decode cX2_stepBetweenPrimitives 5 = .ok (.ifCond .ne 5, 3) := by decide +kernel
theorem dX2_stepBetweenPrimitives_8 : decode cX2_stepBetweenPrimitives 8 = .ok (.iconst 0, 1) := by decide +kernel
theorem dX2_stepBetweenPrimitives_9 : decode cX2_stepBetweenPrimitives 9 = .ok (.ireturn, 1) := by decide +kernel
theorem dX2_stepBetweenPrimitives_10 : decode cX2_stepBetweenPrimitives 10 = .ok (.iload_n 0, 1) := by decide +kernel
theorem dX2_stepBetweenPrimitives_11 : decode cX2_stepBetweenPrimitives 11 = .ok (.iload_n 1, 1) := by decide +kernel
theorem dX2_stepBetweenPrimitives_12 : decode cX2_stepBetweenPrimitives 12 = .ok (.invokestatic 156, 3) := by decide +kernel
theorem dX2_stepBetweenPrimitives_15 : decode cX2_stepBetweenPrimitives 15 = .ok (.ifCond .eq 5, 3) := by decide +kernel
theorem dX2_stepBetweenPrimitives_18 : decode cX2_stepBetweenPrimitives 18 = .ok (.iconst 2, 1) := by decide +kernel
theorem dX2_stepBetweenPrimitives_19 : decode cX2_stepBetweenPrimitives 19 = .ok (.ireturn, 1) := by decide +kernel
theorem dX2_stepBetweenPrimitives_20 : decode cX2_stepBetweenPrimitives 20 = .ok (.iload_n 0, 1) := by decide +kernel
theorem dX2_stepBetweenPrimitives_21 : decode cX2_stepBetweenPrimitives 21 = .ok (.iconst 2, 1) := by decide +kernel
theorem dX2_stepBetweenPrimitives_22 : decode cX2_stepBetweenPrimitives 22 = .ok (.if_icmp .ne 12, 3) := by decide +kernel
theorem dX2_stepBetweenPrimitives_25 : decode cX2_stepBetweenPrimitives 25 = .ok (.iload_n 1, 1) := by decide +kernel
theorem dX2_stepBetweenPrimitives_26 : decode cX2_stepBetweenPrimitives 26 = .ok (.iconst 1, 1) := by decide +kernel
theorem dX2_stepBetweenPrimitives_27 : decode cX2_stepBetweenPrimitives 27 = .ok (.if_icmp .ne 7, 3) := by decide +kernel
theorem dX2_stepBetweenPrimitives_30 : decode cX2_stepBetweenPrimitives 30 = .ok (.iconst 4, 1) := by decide +kernel
theorem dX2_stepBetweenPrimitives_31 : decode cX2_stepBetweenPrimitives 31 = .ok (.goto 4, 3) := by decide +kernel
theorem dX2_stepBetweenPrimitives_34 : decode cX2_stepBetweenPrimitives 34 = .ok (.iconst 3, 1) := by decide +kernel
theorem dX2_stepBetweenPrimitives_35 : decode cX2_stepBetweenPrimitives 35 = .ok (.ireturn, 1) := by decide +kernel
set_option maxRecDepth 20000 in
theorem ggX2_isWider_X2_isNumber : GoodIn wsX2_isWider wsX2_isNumber := goodIn_r _ [4] (by decide +kernel) (by decide +kernel)
set_option maxRecDepth 20000 in
theorem gX2_isWider_X2_isNumber : GoodIn wsX2_isWider (va_wsS RX2 101 yX2_isNumber wsX2_isNumber) := goodIn_app (goodIn_of _ (by decide +kernel)) ggX2_isWider_X2_isNumber
theorem dX2_isWider_0 : decode cX2_isWider 0 = .ok (.iload_n 0, 1) := by decide +kernel
theorem dX2_isWider_1 : decode cX2_isWider 1 = .ok (.invokestatic 101, 3) := by decide +kernel
theorem dX2_isWider_4 : decode cX2_isWider 4 = .ok (.ifCond .eq 19, 3) := by decide +kernel
theorem dX2_isWider_7 : decode cX2_isWider 7 = .ok (.iload_n 1, 1) := by decide +kernel
theorem dX2_isWider_8 : decode cX2_isWider 8 = .ok (.invokestatic 101, 3) := by decide +kernel
theorem dX2_isWider_11 : decode cX2_isWider 11 = .ok (.ifCond .eq 12, 3) := by decide +kernel
theorem dX2_isWider_14 : decode cX2_isWider 14 = .ok (.iload_n 1, 1) := by decide +kernel
theorem dX2_isWider_15 : decode cX2_isWider 15 = .ok (.iload_n 0, 1) := by decide +kernel
theorem dX2_isWider_16 : decode cX2_isWider 16 = .ok (.if_icmp .le 7, 3) := by decide +kernel
theorem dX2_isWider_19 : decode cX2_isWider 19 = .ok (.iconst 1, 1) := by decide +kernel
theorem dX2_isWider_20 : decode cX2_isWider 20 = .ok (.goto 4, 3) := by decide +kernel
theorem dX2_isWider_23 : decode cX2_isWider 23 = .ok (.iconst 0, 1) := by decide +kernel
theorem dX2_isWider_24 : decode cX2_isWider 24 = .ok (.istore_n 2, 1) := by decide +kernel
theorem dX2_isWider_25 : decode cX2_isWider 25 = .ok (.iload_n 2, 1) := by decide +kernel
theorem dX2_isWider_26 : decode cX2_isWider 26 = .ok (.ifCond .eq 17, 3) := by decide +kernel
theorem dX2_isWider_29 : decode cX2_isWider 29 = .ok (.iload_n 0, 1) := by decide +kernel
theorem dX2_isWider_30 : decode cX2_isWider 30 = .ok (.iconst 1, 1) := by decide +kernel
theorem dX2_isWider_31 : decode cX2_isWider 31 = .ok (.if_icmp .ne 8, 3) := by decide +kernel
theorem dX2_isWider_34 : decode cX2_isWider 34 = .ok (.iload_n 1, 1) := by decide +kernel
theorem dX2_isWider_35 : decode cX2_isWider 35 = .ok (.iconst 4, 1) := by decide +kernel
theorem dX2_isWider_36 : decode cX2_isWider 36 = .ok (.if_icmp .lt 7, 3) := by decide +kernel
theorem dX2_isWider_39 : decode cX2_isWider 39 = .ok (.iconst 1, 1) := by decide +kernel
theorem dX2_isWider_40 : decode cX2_isWider 40 = .ok (.goto 4, 3) := by decide +kernel
theorem dX2_isWider_43 : decode cX2_isWider 43 = .ok (.iconst 0, 1) := by decide +kernel
theorem dX2_isWider_44 : decode cX2_isWider 44 = .ok (.ireturn, 1) := by decide +kernel
set_option maxRecDepth 20000 in
theorem ggX2_stepsByBoxing_X2_boxed : GoodIn wsX2_stepsByBoxing wsX2_boxed := goodIn_r _ [5, 6, 7, 4, 8] (by decide +kernel) (by decide +kernel)
set_option maxRecDepth 20000 in
theorem gX2_stepsByBoxing_X2_boxed : GoodIn wsX2_stepsByBoxing (va_wsS RX2 129 yX2_boxed wsX2_boxed) := goodIn_app (goodIn_of _ (by decide +kernel)) ggX2_stepsByBoxing_X2_boxed
set_option maxRecDepth 20000 in
theorem ggX2_stepsByBoxing_X1_isUnder : GoodIn wsX2_stepsByBoxing wsX1_isUnder := goodIn_ca (goodIn_r _ [13, 14, 15, 16, 12, 17, 22, 23, 24, 25, 26] (by decide +kernel) (by decide +kernel)) (goodIn_sub (fun _ h => List.mem_cons_of_mem _ (List.mem_append_right _ h)) (by decide +kernel))
set_option maxRecDepth 20000 in
theorem gX2_stepsByBoxing_X1_isUnder : GoodIn wsX2_stepsByBoxing (wsV RX2 75 RX1 yX1_isUnder wsX1_isUnder) := goodIn_app (goodIn_of _ (by decide +kernel)) ggX2_stepsByBoxing_X1_isUnder
theorem dX2_stepsByBoxing_0 : decode cX2_stepsByBoxing 0 = .ok (.iload_n 1, 1) := by decide +kernel
theorem dX2_stepsByBoxing_1 : decode cX2_stepsByBoxing 1 = .ok (.invokestatic 129, 3) := by decide +kernel
theorem dX2_stepsByBoxing_4 : decode cX2_stepsByBoxing 4 = .ok (.istore_n 3, 1) := by decide +kernel
theorem dX2_stepsByBoxing_5 : decode cX2_stepsByBoxing 5 = .ok (.iload_n 3, 1) := by decide +kernel
theorem dX2_stepsByBoxing_6 : decode cX2_stepsByBoxing 6 = .ok (.iload_n 2, 1) := by decide +kernel
theorem dX2_stepsByBoxing_7 : decode cX2_stepsByBoxing 7 = .ok (.if_icmp .ne 5, 3) := by decide +kernel
theorem dX2_stepsByBoxing_10 : decode cX2_stepsByBoxing 10 = .ok (.iconst 5, 1) := by decide +kernel
theorem dX2_stepsByBoxing_11 : decode cX2_stepsByBoxing 11 = .ok (.ireturn, 1) := by decide +kernel
theorem dX2_stepsByBoxing_12 : decode cX2_stepsByBoxing 12 = .ok (.aload_n 0, 1) := by decide +kernel
theorem dX2_stepsByBoxing_13 : decode cX2_stepsByBoxing 13 = .ok (.getfield 12, 3) := by decide +kernel
theorem dX2_stepsByBoxing_16 : decode cX2_stepsByBoxing 16 = .ok (.iload_n 3, 1) := by decide +kernel
theorem dX2_stepsByBoxing_17 : decode cX2_stepsByBoxing 17 = .ok (.iload_n 2, 1) := by decide +kernel
theorem dX2_stepsByBoxing_18 : decode cX2_stepsByBoxing 18 = .ok (.invokevirtual 75, 3) := by decide +kernel
theorem dX2_stepsByBoxing_21 : decode cX2_stepsByBoxing 21 = .ok (.ifCond .eq 8, 3) := by decide +kernel
theorem dX2_stepsByBoxing_24 : decode cX2_stepsByBoxing 24 = .ok (.bipush 6, 2) := by decide +kernel
theorem dX2_stepsByBoxing_26 : decode cX2_stepsByBoxing 26 = .ok (.goto 4, 3) := by decide +kernel
theorem dX2_stepsByBoxing_29 : decode cX2_stepsByBoxing 29 = .ok (.iconst 0, 1) := by decide +kernel
theorem dX2_stepsByBoxing_30 : decode cX2_stepsByBoxing 30 = .ok (.ireturn, 1) := by decide +kernel
set_option maxRecDepth 20000 in
theorem ggX2_stepsByUnboxing_X2_isBox : GoodIn wsX2_stepsByUnboxing wsX2_isBox := goodIn_r _ [5] (by decide +kernel) (by decide +kernel)
set_option maxRecDepth 20000 in
theorem gX2_stepsByUnboxing_X2_isBox : GoodIn wsX2_stepsByUnboxing (va_wsS RX2 135 yX2_isBox wsX2_isBox) := goodIn_app (goodIn_of _ (by decide +kernel)) ggX2_stepsByUnboxing_X2_isBox
set_option maxRecDepth 20000 in
theorem ggX2_stepsByUnboxing_X2_boxed : GoodIn wsX2_stepsByUnboxing wsX2_boxed := goodIn_r _ [8, 9, 10, 4, 11] (by decide +kernel) (by decide +kernel)
set_option maxRecDepth 20000 in
theorem gX2_stepsByUnboxing_X2_boxed : GoodIn wsX2_stepsByUnboxing (va_wsS RX2 129 yX2_boxed wsX2_boxed) := goodIn_app (goodIn_of _ (by decide +kernel)) ggX2_stepsByUnboxing_X2_boxed
set_option maxRecDepth 20000 in
theorem ggX2_stepsByUnboxing_X1_goesDown : GoodIn wsX2_stepsByUnboxing wsX1_goesDown := goodIn_ca (goodIn_r _ [16, 17, 18, 19, 20, 15, 21, 22, 23, 24, 25, 26, 27, 28, 29, 30, 31, 32, 33, 34, 35, 36, 37, 38, 39, 53, 54, 55, 56, 57] (by decide +kernel) (by decide +kernel)) (goodIn_sub (fun _ h => List.mem_cons_of_mem _ (List.mem_append_right _ h)) (by decide +kernel))
set_option maxRecDepth 20000 in
theorem gX2_stepsByUnboxing_X1_goesDown : GoodIn wsX2_stepsByUnboxing (wsV RX2 159 RX1 yX1_goesDown wsX1_goesDown) := goodIn_app (goodIn_of _ (by decide +kernel)) ggX2_stepsByUnboxing_X1_goesDown
set_option maxRecDepth 20000 in
theorem ggX2_stepsByUnboxing_X2_withoutBox : GoodIn wsX2_stepsByUnboxing wsX2_withoutBox := goodIn_r _ [42, 2, 3, 4, 5] (by decide +kernel) (by decide +kernel)
set_option maxRecDepth 20000 in
theorem gX2_stepsByUnboxing_X2_withoutBox : GoodIn wsX2_stepsByUnboxing (va_wsS RX2 115 yX2_withoutBox wsX2_withoutBox) := goodIn_app (goodIn_of _ (by decide +kernel)) ggX2_stepsByUnboxing_X2_withoutBox
set_option maxRecDepth 20000 in
theorem ggX2_stepsByUnboxing_X2_isWider : GoodIn wsX2_stepsByUnboxing wsX2_isWider := goodIn_r _ [45, 46, 47, 4, 48] (by decide +kernel) (by decide +kernel)
set_option maxRecDepth 20000 in
theorem gX2_stepsByUnboxing_X2_isWider : GoodIn wsX2_stepsByUnboxing (va_wsS RX2 156 yX2_isWider wsX2_isWider) := goodIn_app (goodIn_of _ (by decide +kernel)) ggX2_stepsByUnboxing_X2_isWider
theorem dX2_stepsByUnboxing_0 : decode cX2_stepsByUnboxing 0 = .ok (.iload_n 1, 1) := by decide +kernel
theorem dX2_stepsByUnboxing_1 : decode cX2_stepsByUnboxing 1 = .ok (.invokestatic 135, 3) := by decide +kernel
theorem dX2_stepsByUnboxing_4 : decode cX2_stepsByUnboxing 4 = .ok (.ifCond .ne 25, 3) := by decide +kernel
theorem dX2_stepsByUnboxing_7 : decode cX2_stepsByUnboxing 7 = .ok (.aload_n 0, 1) := by decide +kernel
theorem dX2_stepsByUnboxing_8 : decode cX2_stepsByUnboxing 8 = .ok (.getfield 12, 3) := by decide +kernel
theorem dX2_stepsByUnboxing_11 : decode cX2_stepsByUnboxing 11 = .ok (.iload_n 1, 1) := by decide +kernel
theorem dX2_stepsByUnboxing_12 : decode cX2_stepsByUnboxing 12 = .ok (.iload_n 2, 1) := by decide +kernel
theorem dX2_stepsByUnboxing_13 : decode cX2_stepsByUnboxing 13 = .ok (.invokestatic 129, 3) := by decide +kernel
theorem dX2_stepsByUnboxing_16 : decode cX2_stepsByUnboxing 16 = .ok (.invokevirtual 159, 3) := by decide +kernel
theorem dX2_stepsByUnboxing_19 : decode cX2_stepsByUnboxing 19 = .ok (.ifCond .eq 8, 3) := by decide +kernel
theorem dX2_stepsByUnboxing_22 : decode cX2_stepsByUnboxing 22 = .ok (.bipush 11, 2) := by decide +kernel
theorem dX2_stepsByUnboxing_24 : decode cX2_stepsByUnboxing 24 = .ok (.goto 4, 3) := by decide +kernel
theorem dX2_stepsByUnboxing_27 : decode cX2_stepsByUnboxing 27 = .ok (.iconst 0, 1) := by decide +kernel
theorem dX2_stepsByUnboxing_28 : decode cX2_stepsByUnboxing 28 = .ok (.ireturn, 1) := by decide +kernel
theorem dX2_stepsByUnboxing_29 : decode cX2_stepsByUnboxing 29 = .ok (.iload_n 1, 1) := by decide +kernel
theorem dX2_stepsByUnboxing_30 : decode cX2_stepsByUnboxing 30 = .ok (.invokestatic 115, 3) := by decide +kernel
theorem dX2_stepsByUnboxing_33 : decode cX2_stepsByUnboxing 33 = .ok (.istore_n 3, 1) := by decide +kernel
theorem dX2_stepsByUnboxing_34 : decode cX2_stepsByUnboxing 34 = .ok (.iload_n 3, 1) := by decide +kernel
theorem dX2_stepsByUnboxing_35 : decode cX2_stepsByUnboxing 35 = .ok (.iload_n 2, 1) := by decide +kernel
theorem dX2_stepsByUnboxing_36 : decode cX2_stepsByUnboxing 36 = .ok (.if_icmp .ne 6, 3) := by decide +kernel
theorem dX2_stepsByUnboxing_39 : decode cX2_stepsByUnboxing 39 = .ok (.bipush 7, 2) := by decide +kernel
theorem dX2_stepsByUnboxing_41 : decode cX2_stepsByUnboxing 41 = .ok (.ireturn, 1) := by decide +kernel
theorem dX2_stepsByUnboxing_42 : decode cX2_stepsByUnboxing 42 = .ok (.iload_n 3, 1) := by decide +kernel
theorem dX2_stepsByUnboxing_43 : decode cX2_stepsByUnboxing 43 = .ok (.iload_n 2, 1) := by decide +kernel
theorem dX2_stepsByUnboxing_44 : decode cX2_stepsByUnboxing 44 = .ok (.invokestatic 156, 3) := by decide +kernel
theorem dX2_stepsByUnboxing_47 : decode cX2_stepsByUnboxing 47 = .ok (.ifCond .eq 8, 3) := by decide +kernel
theorem dX2_stepsByUnboxing_50 : decode cX2_stepsByUnboxing 50 = .ok (.bipush 8, 2) := by decide +kernel
theorem dX2_stepsByUnboxing_52 : decode cX2_stepsByUnboxing 52 = .ok (.goto 4, 3) := by decide +kernel
theorem dX2_stepsByUnboxing_55 : decode cX2_stepsByUnboxing 55 = .ok (.iconst 0, 1) := by decide +kernel
theorem dX2_stepsByUnboxing_56 : decode cX2_stepsByUnboxing 56 = .ok (.ireturn, 1) := by decide +kernel
set_option maxRecDepth 20000 in
theorem ggX2_stepBetweenReferences_X1_isUnder : GoodIn wsX2_stepBetweenReferences wsX1_isUnder := goodIn_ca (goodIn_r _ [6, 7, 8, 9, 5, 10, 35, 36, 37, 38, 39] (by decide +kernel) (by decide +kernel)) (goodIn_sub (fun _ h => List.mem_cons_of_mem _ (List.mem_append_right _ h)) (by decide +kernel))
set_option maxRecDepth 20000 in
theorem gX2_stepBetweenReferences_X1_isUnder : GoodIn wsX2_stepBetweenReferences (wsV RX2 75 RX1 yX1_isUnder wsX1_isUnder) := goodIn_app (goodIn_of _ (by decide +kernel)) ggX2_stepBetweenReferences_X1_isUnder
set_option maxRecDepth 20000 in
theorem ggX2_stepBetweenReferences_X1_goesDown : GoodIn wsX2_stepBetweenReferences wsX1_goesDown := goodIn_ca (goodIn_r _ [14, 15, 16, 17, 18, 5, 19, 20, 21, 3, 4, 6, 7, 8, 9, 10, 22, 23, 24, 25, 26, 27, 28, 29, 30, 35, 36, 37, 38, 39] (by decide +kernel) (by decide +kernel)) (goodIn_sub (fun _ h => List.mem_cons_of_mem _ (List.mem_append_right _ h)) (by decide +kernel))
set_option maxRecDepth 20000 in
theorem gX2_stepBetweenReferences_X1_goesDown : GoodIn wsX2_stepBetweenReferences (wsV RX2 159 RX1 yX1_goesDown wsX1_goesDown) := goodIn_app (goodIn_of _ (by decide +kernel)) ggX2_stepBetweenReferences_X1_goesDown
theorem dX2_stepBetweenReferences_0 : decode cX2_stepBetweenReferences 0 = .ok (.aload_n 0, 1) := by decide +kernel
theorem dX2_stepBetweenReferences_1 : decode cX2_stepBetweenReferences 1 = .ok (.getfield 12, 3) := by decide +kernel
theorem dX2_stepBetweenReferences_4 : decode cX2_stepBetweenReferences 4 = .ok (.iload_n 1, 1) := by decide +kernel
theorem dX2_stepBetweenReferences_5 : decode cX2_stepBetweenReferences 5 = .ok (.iload_n 2, 1) := by decide +kernel
theorem dX2_stepBetweenReferences_6 : decode cX2_stepBetweenReferences 6 = .ok (.invokevirtual 75, 3) := by decide +kernel
theorem dX2_stepBetweenReferences_9 : decode cX2_stepBetweenReferences 9 = .ok (.ifCond .eq 6, 3) := by decide +kernel
theorem dX2_stepBetweenReferences_12 : decode cX2_stepBetweenReferences 12 = .ok (.bipush 9, 2) := by decide +kernel
theorem dX2_stepBetweenReferences_14 : decode cX2_stepBetweenReferences 14 = .ok (.ireturn, 1) := by decide +kernel
theorem dX2_stepBetweenReferences_15 : decode cX2_stepBetweenReferences 15 = .ok (.aload_n 0, 1) := by decide +kernel
theorem dX2_stepBetweenReferences_16 : decode cX2_stepBetweenReferences 16 = .ok (.getfield 12, 3) := by decide +kernel
theorem dX2_stepBetweenReferences_19 : decode cX2_stepBetweenReferences 19 = .ok (.iload_n 1, 1) := by decide +kernel
theorem dX2_stepBetweenReferences_20 : decode cX2_stepBetweenReferences 20 = .ok (.iload_n 2, 1) := by decide +kernel
theorem dX2_stepBetweenReferences_21 : decode cX2_stepBetweenReferences 21 = .ok (.invokevirtual 159, 3) := by decide +kernel
theorem dX2_stepBetweenReferences_24 : decode cX2_stepBetweenReferences 24 = .ok (.ifCond .eq 8, 3) := by decide +kernel
theorem dX2_stepBetweenReferences_27 : decode cX2_stepBetweenReferences 27 = .ok (.bipush 10, 2) := by decide +kernel
theorem dX2_stepBetweenReferences_29 : decode cX2_stepBetweenReferences 29 = .ok (.goto 4, 3) := by decide +kernel
theorem dX2_stepBetweenReferences_32 : decode cX2_stepBetweenReferences 32 = .ok (.iconst 0, 1) := by decide +kernel
theorem dX2_stepBetweenReferences_33 : decode cX2_stepBetweenReferences 33 = .ok (.ireturn, 1) := by decide +kernel
set_option maxRecDepth 20000 in
theorem ggX2_constantFits_X2_withoutBox : GoodIn wsX2_constantFits wsX2_withoutBox := goodIn_r _ [4, 5, 6, 3, 7] (by decide +kernel) (by decide +kernel)
set_option maxRecDepth 20000 in
theorem gX2_constantFits_X2_withoutBox : GoodIn wsX2_constantFits (va_wsS RX2 115 yX2_withoutBox wsX2_withoutBox) := goodIn_app (goodIn_of _ (by decide +kernel)) ggX2_constantFits_X2_withoutBox
set_option maxRecDepth 20000 in
theorem ggX2_constantFits_X2_areBitsOf : GoodIn wsX2_constantFits wsX2_areBitsOf := goodIn_ca (goodIn_r _ [10, 11, 12] (by decide +kernel) (by decide +kernel)) (goodIn_sub (fun _ h => List.mem_cons_of_mem _ (List.mem_append_right _ h)) (by decide +kernel))
set_option maxRecDepth 20000 in
theorem gX2_constantFits_X2_areBitsOf : GoodIn wsX2_constantFits (va_wsS RX2 89 yX2_areBitsOf wsX2_areBitsOf) := goodIn_app (goodIn_of _ (by decide +kernel)) ggX2_constantFits_X2_areBitsOf
theorem dX2_constantFits_0 : decode cX2_constantFits 0 = .ok (.iload_n 3, 1) := by decide +kernel
theorem dX2_constantFits_1 : decode cX2_constantFits 1 = .ok (.invokestatic 115, 3) := by decide +kernel
theorem dX2_constantFits_4 : decode cX2_constantFits 4 = .ok (.istore 4, 2) := by decide +kernel
theorem dX2_constantFits_6 : decode cX2_constantFits 6 = .ok (.iload_n 2, 1) := by decide +kernel
theorem dX2_constantFits_7 : decode cX2_constantFits 7 = .ok (.iconst 4, 1) := by decide +kernel
theorem dX2_constantFits_8 : decode cX2_constantFits 8 = .ok (.if_icmp .gt 28, 3) := by decide +kernel
theorem dX2_constantFits_11 : decode cX2_constantFits 11 = .ok (.iload 4, 2) := by decide +kernel
theorem dX2_constantFits_13 : decode cX2_constantFits 13 = .ok (.iconst 1, 1) := by decide +kernel
theorem dX2_constantFits_14 : decode cX2_constantFits 14 = .ok (.if_icmp .lt 22, 3) := by decide +kernel
theorem dX2_constantFits_17 : decode cX2_constantFits 17 = .ok (.iload 4, 2) := by decide +kernel
theorem dX2_constantFits_19 : decode cX2_constantFits 19 = .ok (.iconst 3, 1) := by decide +kernel
theorem dX2_constantFits_20 : decode cX2_constantFits 20 = .ok (.if_icmp .gt 16, 3) := by decide +kernel
theorem dX2_constantFits_23 : decode cX2_constantFits 23 = .ok (.lload_n 0, 1) := by decide +kernel
theorem dX2_constantFits_24 : decode cX2_constantFits 24 = .ok (.iload 4, 2) := by decide +kernel
theorem dX2_constantFits_26 : decode cX2_constantFits 26 = .ok (.invokestatic 89, 3) := by decide +kernel
theorem dX2_constantFits_29 : decode cX2_constantFits 29 = .ok (.ifCond .eq 7, 3) := by decide +kernel
theorem dX2_constantFits_32 : decode cX2_constantFits 32 = .ok (.iconst 1, 1) := by decide +kernel
theorem dX2_constantFits_33 : decode cX2_constantFits 33 = .ok (.goto 4, 3) := by decide +kernel
theorem dX2_constantFits_36 : decode cX2_constantFits 36 = .ok (.iconst 0, 1) := by decide +kernel
theorem dX2_constantFits_37 : decode cX2_constantFits 37 = .ok (.ireturn, 1) := by decide +kernel
theorem dX2_areBitsOf_0 : decode cX2_areBitsOf 0 = .ok (.lload_n 0, 1) := by decide +kernel
theorem dX2_areBitsOf_1 : decode cX2_areBitsOf 1 = .ok (.getstatic 162, 3) := by decide +kernel
theorem dX2_areBitsOf_4 : decode cX2_areBitsOf 4 = .ok (.iload_n 2, 1) := by decide +kernel
theorem dX2_areBitsOf_5 : decode cX2_areBitsOf 5 = .ok (.laload, 1) := by decide +kernel
theorem dX2_areBitsOf_6 : decode cX2_areBitsOf 6 = .ok (.lcmp, 1) := by decide +kernel
theorem dX2_areBitsOf_7 : decode cX2_areBitsOf 7 = .ok (.ifCond .lt 17, 3) := by decide +kernel
theorem dX2_areBitsOf_10 : decode cX2_areBitsOf 10 = .ok (.lload_n 0, 1) := by decide +kernel
theorem dX2_areBitsOf_11 : decode cX2_areBitsOf 11 = .ok (.getstatic 165, 3) := by decide +kernel
theorem dX2_areBitsOf_14 : decode cX2_areBitsOf 14 = .ok (.iload_n 2, 1) := by decide +kernel
theorem dX2_areBitsOf_15 : decode cX2_areBitsOf 15 = .ok (.laload, 1) := by decide +kernel
theorem dX2_areBitsOf_16 : decode cX2_areBitsOf 16 = .ok (.lcmp, 1) := by decide +kernel
theorem dX2_areBitsOf_17 : decode cX2_areBitsOf 17 = .ok (.ifCond .gt 7, 3) := by decide +kernel
theorem dX2_areBitsOf_20 : decode cX2_areBitsOf 20 = .ok (.iconst 1, 1) := by decide +kernel
theorem dX2_areBitsOf_21 : decode cX2_areBitsOf 21 = .ok (.goto 4, 3) := by decide +kernel
theorem dX2_areBitsOf_24 : decode cX2_areBitsOf 24 = .ok (.iconst 0, 1) := by decide +kernel
theorem dX2_areBitsOf_25 : decode cX2_areBitsOf 25 = .ok (.ireturn, 1) := by decide +kernel
theorem dX2_formatOf_0 : decode cX2_formatOf 0 = .ok (.iload_n 0, 1) := by decide +kernel
theorem dX2_formatOf_1 : decode cX2_formatOf 1 = .ok (.bipush 6, 2) := by decide +kernel
theorem dX2_formatOf_3 : decode cX2_formatOf 3 = .ok (.if_icmp .ne 9, 3) := by decide +kernel
theorem dX2_formatOf_6 : decode cX2_formatOf 6 = .ok (.getstatic 168, 3) := by decide +kernel
theorem dX2_formatOf_9 : decode cX2_formatOf 9 = .ok (.goto 6, 3) := by decide +kernel
theorem dX2_formatOf_12 : decode cX2_formatOf 12 = .ok (.getstatic 174, 3) := by decide +kernel
theorem dX2_formatOf_15 : decode cX2_formatOf 15 = .ok (.areturn, 1) := by decide +kernel
set_option maxRecDepth 20000 in
theorem ggX2_turnedToFloating_X2_isWhole : GoodIn wsX2_turnedToFloating wsX2_isWhole := goodIn_r _ [4] (by decide +kernel) (by decide +kernel)
set_option maxRecDepth 20000 in
theorem gX2_turnedToFloating_X2_isWhole : GoodIn wsX2_turnedToFloating (va_wsS RX2 86 yX2_isWhole wsX2_isWhole) := goodIn_app (goodIn_of _ (by decide +kernel)) ggX2_turnedToFloating_X2_isWhole
set_option maxRecDepth 20000 in
theorem ggX2_turnedToFloating_X2_formatOf : GoodIn wsX2_turnedToFloating wsX2_formatOf := goodIn_r _ [7, 8, 9] (by decide +kernel) (by decide +kernel)
set_option maxRecDepth 20000 in
theorem gX2_turnedToFloating_X2_formatOf : GoodIn wsX2_turnedToFloating (va_wsS RX2 177 yX2_formatOf wsX2_formatOf) := goodIn_app (goodIn_of _ (by decide +kernel)) ggX2_turnedToFloating_X2_formatOf
set_option maxRecDepth 20000 in
theorem ggX2_turnedToFloating_X0_fromLong : GoodIn wsX2_turnedToFloating wsX0_fromLong := goodIn_ca (goodIn_r _ [14, 15, 16, 17, 13, 18, 19, 20, 21, 22, 23, 24, 25, 26, 27, 28, 29, 30, 31, 32, 33, 34, 35, 36, 37, 38, 39, 40, 41, 42, 43, 44, 45, 46, 47, 48] (by decide +kernel) (by decide +kernel)) (goodIn_sub (fun _ h => List.mem_cons_of_mem _ (List.mem_append_right _ h)) (by decide +kernel))
set_option maxRecDepth 20000 in
theorem gX2_turnedToFloating_X0_fromLong : GoodIn wsX2_turnedToFloating (wsV RX2 181 RX0 yX0_fromLong wsX0_fromLong) := goodIn_app (goodIn_of _ (by decide +kernel)) ggX2_turnedToFloating_X0_fromLong
set_option maxRecDepth 20000 in
theorem ggX2_turnedToFloating_X0_fromFormat : GoodIn wsX2_turnedToFloating wsX0_fromFormat := goodIn_ca (goodIn_r _ [52, 25, 53, 54, 55, 56, 13, 57, 48, 58, 44, 45, 46, 47, 59, 60, 61, 62, 19, 63, 64, 65, 66, 67, 68, 69, 70, 20, 71, 72, 23, 73, 15, 16, 17, 18, 21, 22, 24, 26, 27, 28, 29, 30, 31, 32, 33, 34, 35, 36, 37, 38, 39, 40, 41, 42, 43] (by decide +kernel) (by decide +kernel)) (goodIn_sub (fun _ h => List.mem_cons_of_mem _ (List.mem_append_right _ h)) (by decide +kernel))
set_option maxRecDepth 20000 in
theorem gX2_turnedToFloating_X0_fromFormat : GoodIn wsX2_turnedToFloating (wsV RX2 185 RX0 yX0_fromFormat wsX0_fromFormat) := goodIn_app (goodIn_of _ (by decide +kernel)) ggX2_turnedToFloating_X0_fromFormat
theorem dX2_turnedToFloating_0 : decode cX2_turnedToFloating 0 = .ok (.iload_n 0, 1) := by decide +kernel
theorem dX2_turnedToFloating_1 : decode cX2_turnedToFloating 1 = .ok (.invokestatic 86, 3) := by decide +kernel
theorem dX2_turnedToFloating_4 : decode cX2_turnedToFloating 4 = .ok (.ifCond .eq 12, 3) := by decide +kernel
theorem dX2_turnedToFloating_7 : decode cX2_turnedToFloating 7 = .ok (.iload_n 3, 1) := by decide +kernel
theorem dX2_turnedToFloating_8 : decode cX2_turnedToFloating 8 = .ok (.invokestatic 177, 3) := by decide +kernel
theorem dX2_turnedToFloating_11 : decode cX2_turnedToFloating 11 = .ok (.lload_n 1, 1) := by decide +kernel
theorem dX2_turnedToFloating_12 : decode cX2_turnedToFloating 12 = .ok (.invokevirtual 181, 3) := by decide +kernel
theorem dX2_turnedToFloating_15 : decode cX2_turnedToFloating 15 = .ok (.lreturn, 1) := by decide +kernel
theorem dX2_turnedToFloating_16 : decode cX2_turnedToFloating 16 = .ok (.iload_n 3, 1) := by decide +kernel
theorem dX2_turnedToFloating_17 : decode cX2_turnedToFloating 17 = .ok (.invokestatic 177, 3) := by decide +kernel
theorem dX2_turnedToFloating_20 : decode cX2_turnedToFloating 20 = .ok (.iload_n 0, 1) := by decide +kernel
theorem dX2_turnedToFloating_21 : decode cX2_turnedToFloating 21 = .ok (.invokestatic 177, 3) := by decide +kernel
theorem dX2_turnedToFloating_24 : decode cX2_turnedToFloating 24 = .ok (.lload_n 1, 1) := by decide +kernel
theorem dX2_turnedToFloating_25 : decode cX2_turnedToFloating 25 = .ok (.invokevirtual 185, 3) := by decide +kernel
theorem dX2_turnedToFloating_28 : decode cX2_turnedToFloating 28 = .ok (.lreturn, 1) := by decide +kernel
set_option maxRecDepth 20000 in
theorem ggX2_turnedToWhole_X2_isWhole : GoodIn wsX2_turnedToWhole wsX2_isWhole := goodIn_r _ [4] (by decide +kernel) (by decide +kernel)
set_option maxRecDepth 20000 in
theorem gX2_turnedToWhole_X2_isWhole : GoodIn wsX2_turnedToWhole (va_wsS RX2 86 yX2_isWhole wsX2_isWhole) := goodIn_app (goodIn_of _ (by decide +kernel)) ggX2_turnedToWhole_X2_isWhole
set_option maxRecDepth 20000 in
theorem ggX2_turnedToWhole_X2_lowestBits : GoodIn wsX2_turnedToWhole wsX2_lowestBits := goodIn_r _ [7] (by decide +kernel) (by decide +kernel)
set_option maxRecDepth 20000 in
theorem gX2_turnedToWhole_X2_lowestBits : GoodIn wsX2_turnedToWhole (va_wsS RX2 189 yX2_lowestBits wsX2_lowestBits) := goodIn_app (goodIn_of _ (by decide +kernel)) ggX2_turnedToWhole_X2_lowestBits
set_option maxRecDepth 20000 in
theorem ggX2_turnedToWhole_X2_formatOf : GoodIn wsX2_turnedToWhole wsX2_formatOf := goodIn_r _ [10, 11, 12] (by decide +kernel) (by decide +kernel)
set_option maxRecDepth 20000 in
theorem gX2_turnedToWhole_X2_formatOf : GoodIn wsX2_turnedToWhole (va_wsS RX2 177 yX2_formatOf wsX2_formatOf) := goodIn_app (goodIn_of _ (by decide +kernel)) ggX2_turnedToWhole_X2_formatOf
set_option maxRecDepth 20000 in
theorem ggX2_turnedToWhole_X0_toLong : GoodIn wsX2_turnedToWhole wsX0_toLong := goodIn_ca (goodIn_r _ [17, 18, 19, 20, 21, 22, 23, 16, 24, 25, 26, 27, 28, 29, 30, 31, 32, 33, 34, 35, 36, 37, 38, 39, 40, 41, 42, 43, 44, 45, 46, 47, 48, 49, 50, 51, 52, 53, 54, 55, 56, 57, 58, 59] (by decide +kernel) (by decide +kernel)) (goodIn_sub (fun _ h => List.mem_cons_of_mem _ (List.mem_append_right _ h)) (by decide +kernel))
set_option maxRecDepth 20000 in
theorem gX2_turnedToWhole_X0_toLong : GoodIn wsX2_turnedToWhole (wsV RX2 193 RX0 yX0_toLong wsX0_toLong) := goodIn_app (goodIn_of _ (by decide +kernel)) ggX2_turnedToWhole_X0_toLong
set_option maxRecDepth 20000 in
theorem ggX2_turnedToWhole_X2_nearestInt : GoodIn wsX2_turnedToWhole wsX2_nearestInt := goodIn_ca (goodIn_r _ [62, 63, 64, 65, 66, 43, 67, 68, 42, 44] (by decide +kernel) (by decide +kernel)) (goodIn_sub (fun _ h => List.mem_cons_of_mem _ (List.mem_append_right _ h)) (by decide +kernel))
set_option maxRecDepth 20000 in
theorem gX2_turnedToWhole_X2_nearestInt : GoodIn wsX2_turnedToWhole (va_wsS RX2 196 yX2_nearestInt wsX2_nearestInt) := goodIn_app (goodIn_of _ (by decide +kernel)) ggX2_turnedToWhole_X2_nearestInt
theorem dX2_turnedToWhole_0 : decode cX2_turnedToWhole 0 = .ok (.iload_n 0, 1) := by decide +kernel
theorem dX2_turnedToWhole_1 : decode cX2_turnedToWhole 1 = .ok (.invokestatic 86, 3) := by decide +kernel
theorem dX2_turnedToWhole_4 : decode cX2_turnedToWhole 4 = .ok (.ifCond .eq 9, 3) := by decide +kernel
theorem dX2_turnedToWhole_7 : decode cX2_turnedToWhole 7 = .ok (.lload_n 1, 1) := by decide +kernel
theorem dX2_turnedToWhole_8 : decode cX2_turnedToWhole 8 = .ok (.iload_n 3, 1) := by decide +kernel
theorem dX2_turnedToWhole_9 : decode cX2_turnedToWhole 9 = .ok (.invokestatic 189, 3) := by decide +kernel
theorem dX2_turnedToWhole_12 : decode cX2_turnedToWhole 12 = .ok (.lreturn, 1) := by decide +kernel
theorem dX2_turnedToWhole_13 : decode cX2_turnedToWhole 13 = .ok (.iload_n 0, 1) := by decide +kernel
theorem dX2_turnedToWhole_14 : decode cX2_turnedToWhole 14 = .ok (.invokestatic 177, 3) := by decide +kernel
theorem dX2_turnedToWhole_17 : decode cX2_turnedToWhole 17 = .ok (.lload_n 1, 1) := by decide +kernel
theorem dX2_turnedToWhole_18 : decode cX2_turnedToWhole 18 = .ok (.invokevirtual 193, 3) := by decide +kernel
theorem dX2_turnedToWhole_21 : decode cX2_turnedToWhole 21 = .ok (.lstore 4, 2) := by decide +kernel
theorem dX2_turnedToWhole_23 : decode cX2_turnedToWhole 23 = .ok (.iload_n 3, 1) := by decide +kernel
theorem dX2_turnedToWhole_24 : decode cX2_turnedToWhole 24 = .ok (.iconst 5, 1) := by decide +kernel
theorem dX2_turnedToWhole_25 : decode cX2_turnedToWhole 25 = .ok (.if_icmp .ne 8, 3) := by decide +kernel
theorem dX2_turnedToWhole_28 : decode cX2_turnedToWhole 28 = .ok (.lload 4, 2) := by decide +kernel
theorem dX2_turnedToWhole_30 : decode cX2_turnedToWhole 30 = .ok (.goto 12, 3) := by decide +kernel
theorem dX2_turnedToWhole_33 : decode cX2_turnedToWhole 33 = .ok (.lload 4, 2) := by decide +kernel
theorem dX2_turnedToWhole_35 : decode cX2_turnedToWhole 35 = .ok (.invokestatic 196, 3) := by decide +kernel
theorem dX2_turnedToWhole_38 : decode cX2_turnedToWhole 38 = .ok (.iload_n 3, 1) := by decide +kernel
theorem dX2_turnedToWhole_39 : decode cX2_turnedToWhole 39 = .ok (.invokestatic 189, 3) := by decide +kernel
theorem dX2_turnedToWhole_42 : decode cX2_turnedToWhole 42 = .ok (.lreturn, 1) := by decide +kernel
theorem dX2_nearestInt_0 : decode cX2_nearestInt 0 = .ok (.getstatic 162, 3) := by decide +kernel
theorem dX2_nearestInt_3 : decode cX2_nearestInt 3 = .ok (.iconst 4, 1) := by decide +kernel
theorem dX2_nearestInt_4 : decode cX2_nearestInt 4 = .ok (.laload, 1) := by decide +kernel
theorem dX2_nearestInt_5 : decode cX2_nearestInt 5 = .ok (.getstatic 165, 3) := by decide +kernel
theorem dX2_nearestInt_8 : decode cX2_nearestInt 8 = .ok (.iconst 4, 1) := by decide +kernel
theorem dX2_nearestInt_9 : decode cX2_nearestInt 9 = .ok (.laload, 1) := by decide +kernel
theorem dX2_nearestInt_10 : decode cX2_nearestInt 10 = .ok (.lload_n 0, 1) := by decide +kernel
theorem dX2_nearestInt_11 : decode cX2_nearestInt 11 = .ok (.invokestatic 199, 3) := by decide +kernel
theorem dX2_nearestInt_14 : decode cX2_nearestInt 14 = .ok (.invokestatic 203, 3) := by decide +kernel
theorem dX2_nearestInt_17 : decode cX2_nearestInt 17 = .ok (.lreturn, 1) := by decide +kernel
theorem dX2_lowestBits_0 : decode cX2_lowestBits 0 = .ok (.iload_n 2, 1) := by decide +kernel
theorem dX2_lowestBits_1 : decode cX2_lowestBits 1 = .ok (.tableswitch 50 1 4 #[31, 36, 41, 46], 31) := by decide +kernel
theorem dX2_lowestBits_32 : decode cX2_lowestBits 32 = .ok (.lload_n 0, 1) := by decide +kernel
theorem dX2_lowestBits_33 : decode cX2_lowestBits 33 = .ok (.l2i, 1) := by decide +kernel
theorem dX2_lowestBits_34 : decode cX2_lowestBits 34 = .ok (.i2c, 1) := by decide +kernel
theorem dX2_lowestBits_35 : decode cX2_lowestBits 35 = .ok (.i2l, 1) := by decide +kernel
theorem dX2_lowestBits_36 : decode cX2_lowestBits 36 = .ok (.lreturn, 1) := by decide +kernel
theorem dX2_lowestBits_37 : decode cX2_lowestBits 37 = .ok (.lload_n 0, 1) := by decide +kernel
theorem dX2_lowestBits_38 : decode cX2_lowestBits 38 = .ok (.l2i, 1) := by decide +kernel
theorem dX2_lowestBits_39 : decode cX2_lowestBits 39 = .ok (.i2b, 1) := by decide +kernel
theorem dX2_lowestBits_40 : decode cX2_lowestBits 40 = .ok (.i2l, 1) := by decide +kernel
theorem dX2_lowestBits_41 : decode cX2_lowestBits 41 = .ok (.lreturn, 1) := by decide +kernel
theorem dX2_lowestBits_42 : decode cX2_lowestBits 42 = .ok (.lload_n 0, 1) := by decide +kernel
theorem dX2_lowestBits_43 : decode cX2_lowestBits 43 = .ok (.l2i, 1) := by decide +kernel
theorem dX2_lowestBits_44 : decode cX2_lowestBits 44 = .ok (.i2s, 1) := by decide +kernel
theorem dX2_lowestBits_45 : decode cX2_lowestBits 45 = .ok (.i2l, 1) := by decide +kernel
theorem dX2_lowestBits_46 : decode cX2_lowestBits 46 = .ok (.lreturn, 1) := by decide +kernel
theorem dX2_lowestBits_47 : decode cX2_lowestBits 47 = .ok (.lload_n 0, 1) := by decide +kernel
theorem dX2_lowestBits_48 : decode cX2_lowestBits 48 = .ok (.l2i, 1) := by decide +kernel
theorem dX2_lowestBits_49 : decode cX2_lowestBits 49 = .ok (.i2l, 1) := by decide +kernel
theorem dX2_lowestBits_50 : decode cX2_lowestBits 50 = .ok (.lreturn, 1) := by decide +kernel
theorem dX2_lowestBits_51 : decode cX2_lowestBits 51 = .ok (.lload_n 0, 1) := by decide +kernel
theorem dX2_lowestBits_52 : decode cX2_lowestBits 52 = .ok (.lreturn, 1) := by decide +kernel
theorem dX2_promotedOfTwo_0 : decode cX2_promotedOfTwo 0 = .ok (.iconst 4, 1) := by decide +kernel
theorem dX2_promotedOfTwo_1 : decode cX2_promotedOfTwo 1 = .ok (.iload_n 0, 1) := by decide +kernel
theorem dX2_promotedOfTwo_2 : decode cX2_promotedOfTwo 2 = .ok (.iload_n 1, 1) := by decide +kernel
theorem dX2_promotedOfTwo_3 : decode cX2_promotedOfTwo 3 = .ok (.invokestatic 118, 3) := by decide +kernel
theorem dX2_promotedOfTwo_6 : decode cX2_promotedOfTwo 6 = .ok (.invokestatic 118, 3) := by decide +kernel
theorem dX2_promotedOfTwo_9 : decode cX2_promotedOfTwo 9 = .ok (.ireturn, 1) := by decide +kernel
theorem dX2_isByteAndShort_0 : decode cX2_isByteAndShort 0 = .ok (.iload_n 0, 1) := by decide +kernel
theorem dX2_isByteAndShort_1 : decode cX2_isByteAndShort 1 = .ok (.iconst 2, 1) := by decide +kernel
theorem dX2_isByteAndShort_2 : decode cX2_isByteAndShort 2 = .ok (.if_icmp .ne 8, 3) := by decide +kernel
theorem dX2_isByteAndShort_5 : decode cX2_isByteAndShort 5 = .ok (.iload_n 1, 1) := by decide +kernel
theorem dX2_isByteAndShort_6 : decode cX2_isByteAndShort 6 = .ok (.iconst 3, 1) := by decide +kernel
theorem dX2_isByteAndShort_7 : decode cX2_isByteAndShort 7 = .ok (.if_icmp .eq 13, 3) := by decide +kernel
theorem dX2_isByteAndShort_10 : decode cX2_isByteAndShort 10 = .ok (.iload_n 0, 1) := by decide +kernel
theorem dX2_isByteAndShort_11 : decode cX2_isByteAndShort 11 = .ok (.iconst 3, 1) := by decide +kernel
theorem dX2_isByteAndShort_12 : decode cX2_isByteAndShort 12 = .ok (.if_icmp .ne 12, 3) := by decide +kernel
theorem dX2_isByteAndShort_15 : decode cX2_isByteAndShort 15 = .ok (.iload_n 1, 1) := by decide +kernel
theorem dX2_isByteAndShort_16 : decode cX2_isByteAndShort 16 = .ok (.iconst 2, 1) := by decide +kernel
theorem dX2_isByteAndShort_17 : decode cX2_isByteAndShort 17 = .ok (.if_icmp .ne 7, 3) := by decide +kernel
theorem dX2_isByteAndShort_20 : decode cX2_isByteAndShort 20 = .ok (.iconst 1, 1) := by decide +kernel
theorem dX2_isByteAndShort_21 : decode cX2_isByteAndShort 21 = .ok (.goto 4, 3) := by decide +kernel
theorem dX2_isByteAndShort_24 : decode cX2_isByteAndShort 24 = .ok (.iconst 0, 1) := by decide +kernel
theorem dX2_isByteAndShort_25 : decode cX2_isByteAndShort 25 = .ok (.ireturn, 1) := by decide +kernel
set_option maxRecDepth 20000 in
theorem ggX2_conditionalOfReferences_X1_isUnder : GoodIn wsX2_conditionalOfReferences wsX1_isUnder := goodIn_ca (goodIn_r _ [6, 7, 8, 9, 5, 10, 15, 16, 17, 18, 19] (by decide +kernel) (by decide +kernel)) (goodIn_sub (fun _ h => List.mem_cons_of_mem _ (List.mem_append_right _ h)) (by decide +kernel))
set_option maxRecDepth 20000 in
theorem gX2_conditionalOfReferences_X1_isUnder : GoodIn wsX2_conditionalOfReferences (wsV RX2 75 RX1 yX1_isUnder wsX1_isUnder) := goodIn_app (goodIn_of _ (by decide +kernel)) ggX2_conditionalOfReferences_X1_isUnder
theorem dX2_conditionalOfReferences_0 : decode cX2_conditionalOfReferences 0 = .ok (.aload_n 0, 1) := by decide +kernel
theorem dX2_conditionalOfReferences_1 : decode cX2_conditionalOfReferences 1 = .ok (.getfield 12, 3) := by decide +kernel
theorem dX2_conditionalOfReferences_4 : decode cX2_conditionalOfReferences 4 = .ok (.iload_n 1, 1) := by decide +kernel
theorem dX2_conditionalOfReferences_5 : decode cX2_conditionalOfReferences 5 = .ok (.iload_n 2, 1) := by decide +kernel
theorem dX2_conditionalOfReferences_6 : decode cX2_conditionalOfReferences 6 = .ok (.invokevirtual 75, 3) := by decide +kernel
theorem dX2_conditionalOfReferences_9 : decode cX2_conditionalOfReferences 9 = .ok (.ifCond .eq 5, 3) := by decide +kernel
theorem dX2_conditionalOfReferences_12 : decode cX2_conditionalOfReferences 12 = .ok (.iload_n 2, 1) := by decide +kernel
theorem dX2_conditionalOfReferences_13 : decode cX2_conditionalOfReferences 13 = .ok (.ireturn, 1) := by decide +kernel
theorem dX2_conditionalOfReferences_14 : decode cX2_conditionalOfReferences 14 = .ok (.aload_n 0, 1) := by decide +kernel
theorem dX2_conditionalOfReferences_15 : decode cX2_conditionalOfReferences 15 = .ok (.getfield 12, 3) := by decide +kernel
theorem dX2_conditionalOfReferences_18 : decode cX2_conditionalOfReferences 18 = .ok (.iload_n 2, 1) := by decide +kernel
theorem dX2_conditionalOfReferences_19 : decode cX2_conditionalOfReferences 19 = .ok (.iload_n 1, 1) := by decide +kernel
theorem dX2_conditionalOfReferences_20 : decode cX2_conditionalOfReferences 20 = .ok (.invokevirtual 75, 3) := by decide +kernel
theorem dX2_conditionalOfReferences_23 : decode cX2_conditionalOfReferences 23 = .ok (.ifCond .eq 7, 3) := by decide +kernel
theorem dX2_conditionalOfReferences_26 : decode cX2_conditionalOfReferences 26 = .ok (.iload_n 1, 1) := by decide +kernel
theorem dX2_conditionalOfReferences_27 : decode cX2_conditionalOfReferences 27 = .ok (.goto 5, 3) := by decide +kernel
theorem dX2_conditionalOfReferences_30 : decode cX2_conditionalOfReferences 30 = .ok (.bipush 16, 2) := by decide +kernel
theorem dX2_conditionalOfReferences_32 : decode cX2_conditionalOfReferences 32 = .ok (.ireturn, 1) := by decide +kernel
set_option maxRecDepth 20000 in
theorem ggX2_box_X1_has : GoodIn wsX2_box wsX1_has := goodIn_r _ [6, 7, 103, 104, 105, 106, 107] (by decide +kernel) (by decide +kernel)
set_option maxRecDepth 20000 in
theorem gX2_box_X1_has : GoodIn wsX2_box (wsV RX2 50 RX1 yX1_has wsX1_has) := goodIn_app (goodIn_of _ (by decide +kernel)) ggX2_box_X1_has
set_option maxRecDepth 20000 in
theorem ggX2_box_X2_isBox : GoodIn wsX2_box wsX2_isBox := goodIn_r _ [11] (by decide +kernel) (by decide +kernel)
set_option maxRecDepth 20000 in
theorem gX2_box_X2_isBox : GoodIn wsX2_box (va_wsS RX2 135 yX2_isBox wsX2_isBox) := goodIn_app (goodIn_of _ (by decide +kernel)) ggX2_box_X2_isBox
set_option maxRecDepth 20000 in
theorem ggX2_box_X2_withoutBox : GoodIn wsX2_box wsX2_withoutBox := goodIn_r _ [14, 8, 9, 10, 11] (by decide +kernel) (by decide +kernel)
set_option maxRecDepth 20000 in
theorem gX2_box_X2_withoutBox : GoodIn wsX2_box (va_wsS RX2 115 yX2_withoutBox wsX2_withoutBox) := goodIn_app (goodIn_of _ (by decide +kernel)) ggX2_box_X2_withoutBox
set_option maxRecDepth 20000 in
theorem ggX2_box_X2_areBitsOf : GoodIn wsX2_box wsX2_areBitsOf := goodIn_ca (goodIn_r _ [17, 18, 19] (by decide +kernel) (by decide +kernel)) (goodIn_sub (fun _ h => List.mem_cons_of_mem _ (List.mem_append_right _ h)) (by decide +kernel))
set_option maxRecDepth 20000 in
theorem gX2_box_X2_areBitsOf : GoodIn wsX2_box (va_wsS RX2 89 yX2_areBitsOf wsX2_areBitsOf) := goodIn_app (goodIn_of _ (by decide +kernel)) ggX2_box_X2_areBitsOf
set_option maxRecDepth 20000 in
theorem ggX2_box_X2_isFullOfObjects : GoodIn wsX2_box wsX2_isFullOfObjects := goodIn_r _ [23, 24, 99, 100, 101, 102] (by decide +kernel) (by decide +kernel)
set_option maxRecDepth 20000 in
theorem gX2_box_X2_isFullOfObjects : GoodIn wsX2_box (wsV RX2 205 RX2 yX2_isFullOfObjects wsX2_isFullOfObjects) := goodIn_app (goodIn_of _ (by decide +kernel)) ggX2_box_X2_isFullOfObjects
set_option maxRecDepth 20000 in
theorem ggX2_box_X2_withOneNaN : GoodIn wsX2_box wsX2_withOneNaN := goodIn_ca (goodIn_r _ [27, 28, 29, 10, 30, 31, 32, 33, 34, 35, 36, 37, 38, 39, 40, 41, 42, 43, 44, 45, 46, 47, 48, 49, 50, 51, 52, 53, 54, 55, 56, 57, 58, 59, 60, 61, 62, 63, 64, 65, 66, 67, 68, 69, 70, 71, 72, 73, 74, 75, 76, 77, 78, 79, 80, 81, 82, 83, 84, 85, 86, 87, 88, 89, 90, 91, 92] (by decide +kernel) (by decide +kernel)) (goodIn_sub (fun _ h => List.mem_cons_of_mem _ (List.mem_append_right _ h)) (by decide +kernel))
set_option maxRecDepth 20000 in
theorem gX2_box_X2_withOneNaN : GoodIn wsX2_box (va_wsS RX2 208 yX2_withOneNaN wsX2_withOneNaN) := goodIn_app (goodIn_of _ (by decide +kernel)) ggX2_box_X2_withOneNaN
set_option maxRecDepth 20000 in
theorem ggX2_box_X2_addObject : GoodIn wsX2_box wsX2_addObject := goodIn_ca (goodIn_r _ [96, 24, 97, 98, 99, 100, 101, 102] (by decide +kernel) (by decide +kernel)) (goodIn_sub (fun _ h => List.mem_cons_of_mem _ (List.mem_append_right _ h)) (by decide +kernel))
set_option maxRecDepth 20000 in
theorem gX2_box_X2_addObject : GoodIn wsX2_box (wsV RX2 212 RX2 yX2_addObject wsX2_addObject) := goodIn_app (goodIn_of _ (by decide +kernel)) ggX2_box_X2_addObject
theorem dX2_box_0 : decode cX2_box 0 = .ok (.aload_n 0, 1) := by decide +kernel
theorem dX2_box_1 : decode cX2_box 1 = .ok (.getfield 12, 3) := by decide +kernel
theorem dX2_box_4 : decode cX2_box 4 = .ok (.iload_n 1, 1) := by decide +kernel
theorem dX2_box_5 : decode cX2_box 5 = .ok (.invokevirtual 50, 3) := by decide +kernel
theorem dX2_box_8 : decode cX2_box 8 = .ok (.ifCond .ne 5, 3) := by decide +kernel
theorem dX2_box_11 : decode cX2_box 11 = .ok (.iconst (-1), 1) := by decide +kernel
theorem dX2_box_12 : decode cX2_box 12 = .ok (.ireturn, 1) := by decide +kernel
theorem dX2_box_13 : decode cX2_box 13 = .ok (.iload_n 1, 1) := by decide +kernel
theorem dX2_box_14 : decode cX2_box 14 = .ok (.invokestatic 135, 3) := by decide +kernel
theorem dX2_box_17 : decode cX2_box 17 = .ok (.ifCond .eq 14, 3) := by decide +kernel
theorem dX2_box_20 : decode cX2_box 20 = .ok (.lload_n 2, 1) := by decide +kernel
theorem dX2_box_21 : decode cX2_box 21 = .ok (.iload_n 1, 1) := by decide +kernel
theorem dX2_box_22 : decode cX2_box 22 = .ok (.invokestatic 115, 3) := by decide +kernel
theorem dX2_box_25 : decode cX2_box 25 = .ok (.invokestatic 89, 3) := by decide +kernel
theorem dX2_box_28 : decode cX2_box 28 = .ok (.ifCond .ne 6, 3) := by decide +kernel
theorem dX2_box_31 : decode cX2_box 31 = .ok (.bipush (-2), 2) := by decide +kernel
theorem dX2_box_33 : decode cX2_box 33 = .ok (.ireturn, 1) := by decide +kernel
theorem dX2_box_34 : decode cX2_box 34 = .ok (.aload_n 0, 1) := by decide +kernel
theorem dX2_box_35 : decode cX2_box 35 = .ok (.invokevirtual 205, 3) := by decide +kernel
theorem dX2_box_38 : decode cX2_box 38 = .ok (.ifCond .eq 8, 3) := by decide +kernel
theorem dX2_box_41 : decode cX2_box 41 = .ok (.bipush (-3), 2) := by decide +kernel
theorem dX2_box_43 : decode cX2_box 43 = .ok (.goto 16, 3) := by decide +kernel
theorem dX2_box_46 : decode cX2_box 46 = .ok (.aload_n 0, 1) := by decide +kernel
theorem dX2_box_47 : decode cX2_box 47 = .ok (.iload_n 1, 1) := by decide +kernel
theorem dX2_box_48 : decode cX2_box 48 = .ok (.iload_n 1, 1) := by decide +kernel
theorem dX2_box_49 : decode cX2_box 49 = .ok (.invokestatic 115, 3) := by decide +kernel
theorem dX2_box_52 : decode cX2_box 52 = .ok (.lload_n 2, 1) := by decide +kernel
theorem dX2_box_53 : decode cX2_box 53 = .ok (.invokestatic 208, 3) := by decide +kernel
theorem dX2_box_56 : decode cX2_box 56 = .ok (.invokevirtual 212, 3) := by decide +kernel
theorem dX2_box_59 : decode cX2_box 59 = .ok (.ireturn, 1) := by decide +kernel
set_option maxRecDepth 20000 in
theorem ggX2_make_X1_has : GoodIn wsX2_make wsX1_has := goodIn_r _ [6, 7, 33, 34, 35, 36, 37] (by decide +kernel) (by decide +kernel)
set_option maxRecDepth 20000 in
theorem gX2_make_X1_has : GoodIn wsX2_make (wsV RX2 50 RX1 yX1_has wsX1_has) := goodIn_app (goodIn_of _ (by decide +kernel)) ggX2_make_X1_has
set_option maxRecDepth 20000 in
theorem ggX2_make_X2_mayBeMade : GoodIn wsX2_make wsX2_mayBeMade := goodIn_ca (goodIn_r _ [12, 1, 13, 14, 15, 5, 16, 17, 29, 30, 31, 32, 33, 34, 35, 36, 37] (by decide +kernel) (by decide +kernel)) (goodIn_sub (fun _ h => List.mem_cons_of_mem _ (List.mem_append_right _ h)) (by decide +kernel))
set_option maxRecDepth 20000 in
theorem gX2_make_X2_mayBeMade : GoodIn wsX2_make (wsV RX2 216 RX2 yX2_mayBeMade wsX2_mayBeMade) := goodIn_app (goodIn_of _ (by decide +kernel)) ggX2_make_X2_mayBeMade
set_option maxRecDepth 20000 in
theorem ggX2_make_X2_isFullOfObjects : GoodIn wsX2_make wsX2_isFullOfObjects := goodIn_r _ [21, 22, 29, 30, 31, 32] (by decide +kernel) (by decide +kernel)
set_option maxRecDepth 20000 in
theorem gX2_make_X2_isFullOfObjects : GoodIn wsX2_make (wsV RX2 205 RX2 yX2_isFullOfObjects wsX2_isFullOfObjects) := goodIn_app (goodIn_of _ (by decide +kernel)) ggX2_make_X2_isFullOfObjects
set_option maxRecDepth 20000 in
theorem ggX2_make_X2_addObject : GoodIn wsX2_make wsX2_addObject := goodIn_ca (goodIn_r _ [26, 22, 27, 28, 29, 30, 31, 32] (by decide +kernel) (by decide +kernel)) (goodIn_sub (fun _ h => List.mem_cons_of_mem _ (List.mem_append_right _ h)) (by decide +kernel))
set_option maxRecDepth 20000 in
theorem gX2_make_X2_addObject : GoodIn wsX2_make (wsV RX2 212 RX2 yX2_addObject wsX2_addObject) := goodIn_app (goodIn_of _ (by decide +kernel)) ggX2_make_X2_addObject
theorem dX2_make_0 : decode cX2_make 0 = .ok (.aload_n 0, 1) := by decide +kernel
theorem dX2_make_1 : decode cX2_make 1 = .ok (.getfield 12, 3) := by decide +kernel
theorem dX2_make_4 : decode cX2_make 4 = .ok (.iload_n 1, 1) := by decide +kernel
theorem dX2_make_5 : decode cX2_make 5 = .ok (.invokevirtual 50, 3) := by decide +kernel
theorem dX2_make_8 : decode cX2_make 8 = .ok (.ifCond .ne 5, 3) := by decide +kernel
theorem dX2_make_11 : decode cX2_make 11 = .ok (.iconst (-1), 1) := by decide +kernel
theorem dX2_make_12 : decode cX2_make 12 = .ok (.ireturn, 1) := by decide +kernel
theorem dX2_make_13 : decode cX2_make 13 = .ok (.aload_n 0, 1) := by decide +kernel
theorem dX2_make_14 : decode cX2_make 14 = .ok (.iload_n 1, 1) := by decide +kernel
theorem dX2_make_15 : decode cX2_make 15 = .ok (.invokevirtual 216, 3) := by decide +kernel
theorem dX2_make_18 : decode cX2_make 18 = .ok (.ifCond .ne 6, 3) := by decide +kernel
theorem dX2_make_21 : decode cX2_make 21 = .ok (.bipush (-2), 2) := by decide +kernel
theorem dX2_make_23 : decode cX2_make 23 = .ok (.ireturn, 1) := by decide +kernel
theorem dX2_make_24 : decode cX2_make 24 = .ok (.aload_n 0, 1) := by decide +kernel
theorem dX2_make_25 : decode cX2_make 25 = .ok (.invokevirtual 205, 3) := by decide +kernel
theorem dX2_make_28 : decode cX2_make 28 = .ok (.ifCond .eq 8, 3) := by decide +kernel
theorem dX2_make_31 : decode cX2_make 31 = .ok (.bipush (-3), 2) := by decide +kernel
theorem dX2_make_33 : decode cX2_make 33 = .ok (.goto 9, 3) := by decide +kernel
theorem dX2_make_36 : decode cX2_make 36 = .ok (.aload_n 0, 1) := by decide +kernel
theorem dX2_make_37 : decode cX2_make 37 = .ok (.iload_n 1, 1) := by decide +kernel
theorem dX2_make_38 : decode cX2_make 38 = .ok (.lconst 0, 1) := by decide +kernel
theorem dX2_make_39 : decode cX2_make 39 = .ok (.invokevirtual 212, 3) := by decide +kernel
theorem dX2_make_42 : decode cX2_make 42 = .ok (.ireturn, 1) := by decide +kernel
set_option maxRecDepth 20000 in
theorem ggX2_typeOf_X2_isObject : GoodIn wsX2_typeOf wsX2_isObject := goodIn_r _ [6, 7, 8, 9, 10, 11] (by decide +kernel) (by decide +kernel)
set_option maxRecDepth 20000 in
theorem gX2_typeOf_X2_isObject : GoodIn wsX2_typeOf (wsV RX2 219 RX2 yX2_isObject wsX2_isObject) := goodIn_app (goodIn_of _ (by decide +kernel)) ggX2_typeOf_X2_isObject
theorem dX2_typeOf_0 : decode cX2_typeOf 0 = .ok (.aload_n 0, 1) := by decide +kernel
theorem dX2_typeOf_1 : decode cX2_typeOf 1 = .ok (.iload_n 1, 1) := by decide +kernel
theorem dX2_typeOf_2 : decode cX2_typeOf 2 = .ok (.invokevirtual 219, 3) := by decide +kernel
theorem dX2_typeOf_5 : decode cX2_typeOf 5 = .ok (.ifCond .eq 12, 3) := by decide +kernel
theorem dX2_typeOf_8 : decode cX2_typeOf 8 = .ok (.aload_n 0, 1) := by decide +kernel
theorem dX2_typeOf_9 : decode cX2_typeOf 9 = .ok (.getfield 16, 3) := by decide +kernel
theorem dX2_typeOf_12 : decode cX2_typeOf 12 = .ok (.iload_n 1, 1) := by decide +kernel
theorem dX2_typeOf_13 : decode cX2_typeOf 13 = .ok (.iaload, 1) := by decide +kernel
theorem dX2_typeOf_14 : decode cX2_typeOf 14 = .ok (.goto 4, 3) := by decide +kernel
theorem dX2_typeOf_17 : decode cX2_typeOf 17 = .ok (.iconst (-1), 1) := by decide +kernel
theorem dX2_typeOf_18 : decode cX2_typeOf 18 = .ok (.ireturn, 1) := by decide +kernel
set_option maxRecDepth 20000 in
theorem ggX2_unboxed_X2_isObject : GoodIn wsX2_unboxed wsX2_isObject := goodIn_r _ [16, 17, 27, 28, 29, 30] (by decide +kernel) (by decide +kernel)
set_option maxRecDepth 20000 in
theorem gX2_unboxed_X2_isObject : GoodIn wsX2_unboxed (wsV RX2 219 RX2 yX2_isObject wsX2_isObject) := goodIn_app (goodIn_of _ (by decide +kernel)) ggX2_unboxed_X2_isObject
set_option maxRecDepth 20000 in
theorem ggX2_unboxed_X1_has : GoodIn wsX2_unboxed wsX1_has := goodIn_r _ [22, 23, 45, 46, 47, 48, 49] (by decide +kernel) (by decide +kernel)
set_option maxRecDepth 20000 in
theorem gX2_unboxed_X1_has : GoodIn wsX2_unboxed (wsV RX2 50 RX1 yX1_has wsX1_has) := goodIn_app (goodIn_of _ (by decide +kernel)) ggX2_unboxed_X1_has
set_option maxRecDepth 20000 in
theorem ggX2_unboxed_X2_isBox : GoodIn wsX2_unboxed wsX2_isBox := goodIn_r _ [26] (by decide +kernel) (by decide +kernel)
set_option maxRecDepth 20000 in
theorem gX2_unboxed_X2_isBox : GoodIn wsX2_unboxed (va_wsS RX2 135 yX2_isBox wsX2_isBox) := goodIn_app (goodIn_of _ (by decide +kernel)) ggX2_unboxed_X2_isBox
theorem dX2_unboxed_0 : decode cX2_unboxed 0 = .ok (.aload_n 0, 1) := by decide +kernel
theorem dX2_unboxed_1 : decode cX2_unboxed 1 = .ok (.iload_n 1, 1) := by decide +kernel
theorem dX2_unboxed_2 : decode cX2_unboxed 2 = .ok (.invokevirtual 219, 3) := by decide +kernel
theorem dX2_unboxed_5 : decode cX2_unboxed 5 = .ok (.ifCond .eq 14, 3) := by decide +kernel
theorem dX2_unboxed_8 : decode cX2_unboxed 8 = .ok (.aload_n 0, 1) := by decide +kernel
theorem dX2_unboxed_9 : decode cX2_unboxed 9 = .ok (.getfield 12, 3) := by decide +kernel
theorem dX2_unboxed_12 : decode cX2_unboxed 12 = .ok (.iload_n 2, 1) := by decide +kernel
theorem dX2_unboxed_13 : decode cX2_unboxed 13 = .ok (.invokevirtual 50, 3) := by decide +kernel
theorem dX2_unboxed_16 : decode cX2_unboxed 16 = .ok (.ifCond .ne 7, 3) := by decide +kernel
theorem dX2_unboxed_19 : decode cX2_unboxed 19 = .ok (.ldc2_w 104, 3) := by decide +kernel
theorem dX2_unboxed_22 : decode cX2_unboxed 22 = .ok (.lreturn, 1) := by decide +kernel
theorem dX2_unboxed_23 : decode cX2_unboxed 23 = .ok (.iload_n 2, 1) := by decide +kernel
theorem dX2_unboxed_24 : decode cX2_unboxed 24 = .ok (.invokestatic 135, 3) := by decide +kernel
theorem dX2_unboxed_27 : decode cX2_unboxed 27 = .ok (.ifCond .ne 7, 3) := by decide +kernel
theorem dX2_unboxed_30 : decode cX2_unboxed 30 = .ok (.ldc2_w 106, 3) := by decide +kernel
theorem dX2_unboxed_33 : decode cX2_unboxed 33 = .ok (.lreturn, 1) := by decide +kernel
theorem dX2_unboxed_34 : decode cX2_unboxed 34 = .ok (.aload_n 0, 1) := by decide +kernel
theorem dX2_unboxed_35 : decode cX2_unboxed 35 = .ok (.getfield 16, 3) := by decide +kernel
theorem dX2_unboxed_38 : decode cX2_unboxed 38 = .ok (.iload_n 1, 1) := by decide +kernel
theorem dX2_unboxed_39 : decode cX2_unboxed 39 = .ok (.iaload, 1) := by decide +kernel
theorem dX2_unboxed_40 : decode cX2_unboxed 40 = .ok (.bipush 22, 2) := by decide +kernel
theorem dX2_unboxed_42 : decode cX2_unboxed 42 = .ok (.if_icmp .ne 11, 3) := by decide +kernel
theorem dX2_unboxed_45 : decode cX2_unboxed 45 = .ok (.new 222, 3) := by decide +kernel
theorem dX2_unboxed_48 : decode cX2_unboxed 48 = .ok (.dup, 1) := by decide +kernel
theorem dX2_unboxed_49 : decode cX2_unboxed 49 = .ok (.invokespecial 224, 3) := by decide +kernel
theorem dX2_unboxed_52 : decode cX2_unboxed 52 = .ok (.athrow, 1) := by decide +kernel
theorem dX2_unboxed_53 : decode cX2_unboxed 53 = .ok (.aload_n 0, 1) := by decide +kernel
theorem dX2_unboxed_54 : decode cX2_unboxed 54 = .ok (.getfield 16, 3) := by decide +kernel
theorem dX2_unboxed_57 : decode cX2_unboxed 57 = .ok (.iload_n 1, 1) := by decide +kernel
theorem dX2_unboxed_58 : decode cX2_unboxed 58 = .ok (.iaload, 1) := by decide +kernel
theorem dX2_unboxed_59 : decode cX2_unboxed 59 = .ok (.iload_n 2, 1) := by decide +kernel
theorem dX2_unboxed_60 : decode cX2_unboxed 60 = .ok (.if_icmp .eq 11, 3) := by decide +kernel
theorem dX2_unboxed_63 : decode cX2_unboxed 63 = .ok (.new 225, 3) := by decide +kernel
theorem dX2_unboxed_66 : decode cX2_unboxed 66 = .ok (.dup, 1) := by decide +kernel
theorem dX2_unboxed_67 : decode cX2_unboxed 67 = .ok (.invokespecial 227, 3) := by decide +kernel
theorem dX2_unboxed_70 : decode cX2_unboxed 70 = .ok (.athrow, 1) := by decide +kernel
theorem dX2_unboxed_71 : decode cX2_unboxed 71 = .ok (.aload_n 0, 1) := by decide +kernel
theorem dX2_unboxed_72 : decode cX2_unboxed 72 = .ok (.getfield 20, 3) := by decide +kernel
theorem dX2_unboxed_75 : decode cX2_unboxed 75 = .ok (.iload_n 1, 1) := by decide +kernel
theorem dX2_unboxed_76 : decode cX2_unboxed 76 = .ok (.laload, 1) := by decide +kernel
theorem dX2_unboxed_77 : decode cX2_unboxed 77 = .ok (.lreturn, 1) := by decide +kernel
set_option maxRecDepth 20000 in
theorem ggX2_cast_X2_isObject : GoodIn wsX2_cast wsX2_isObject := goodIn_r _ [7, 8, 85, 86, 87, 88] (by decide +kernel) (by decide +kernel)
set_option maxRecDepth 20000 in
theorem gX2_cast_X2_isObject : GoodIn wsX2_cast (wsV RX2 219 RX2 yX2_isObject wsX2_isObject) := goodIn_app (goodIn_of _ (by decide +kernel)) ggX2_cast_X2_isObject
set_option maxRecDepth 20000 in
theorem ggX2_cast_X1_has : GoodIn wsX2_cast wsX1_has := goodIn_r _ [13, 14, 89, 90, 91, 92, 93] (by decide +kernel) (by decide +kernel)
set_option maxRecDepth 20000 in
theorem gX2_cast_X1_has : GoodIn wsX2_cast (wsV RX2 50 RX1 yX1_has wsX1_has) := goodIn_app (goodIn_of _ (by decide +kernel)) ggX2_cast_X1_has
set_option maxRecDepth 20000 in
theorem ggX2_cast_X2_isPrimitive : GoodIn wsX2_cast wsX2_isPrimitive := goodIn_r _ [17] (by decide +kernel) (by decide +kernel)
set_option maxRecDepth 20000 in
theorem gX2_cast_X2_isPrimitive : GoodIn wsX2_cast (va_wsS RX2 72 yX2_isPrimitive wsX2_isPrimitive) := goodIn_app (goodIn_of _ (by decide +kernel)) ggX2_cast_X2_isPrimitive
set_option maxRecDepth 20000 in
theorem ggX2_cast_X1_isUnder : GoodIn wsX2_cast wsX1_isUnder := goodIn_ca (goodIn_r _ [21, 22, 23, 24, 12, 25, 89, 90, 91, 92, 93] (by decide +kernel) (by decide +kernel)) (goodIn_sub (fun _ h => List.mem_cons_of_mem _ (List.mem_append_right _ h)) (by decide +kernel))
set_option maxRecDepth 20000 in
theorem gX2_cast_X1_isUnder : GoodIn wsX2_cast (wsV RX2 75 RX1 yX1_isUnder wsX1_isUnder) := goodIn_app (goodIn_of _ (by decide +kernel)) ggX2_cast_X1_isUnder
set_option maxRecDepth 20000 in
theorem ggX2_cast_X2_allowedKind : GoodIn wsX2_cast wsX2_allowedKind := goodIn_ca (goodIn_r _ [29, 30, 31, 32, 6, 33, 34, 35, 36, 37, 15, 16, 17, 38, 39, 40, 41, 42, 43, 44, 45, 46, 47, 1, 48, 49, 50, 18, 19, 20, 12, 21, 22, 23, 24, 25, 51, 52, 53, 54, 55, 56, 57, 58, 59, 60, 61, 62, 63, 64, 65, 66, 67, 68, 69, 70, 71, 72, 73, 74, 75, 76, 77, 78, 79, 80, 81, 82, 83, 84, 85, 86, 87, 88, 89, 90, 91, 92, 93] (by decide +kernel) (by decide +kernel)) (goodIn_sub (fun _ h => List.mem_cons_of_mem _ (List.mem_append_right _ h)) (by decide +kernel))
set_option maxRecDepth 20000 in
theorem gX2_cast_X2_allowedKind : GoodIn wsX2_cast (wsV RX2 82 RX2 yX2_allowedKind wsX2_allowedKind) := goodIn_app (goodIn_of _ (by decide +kernel)) ggX2_cast_X2_allowedKind
set_option maxRecDepth 20000 in
theorem ggX2_cast_X2_boxed : GoodIn wsX2_cast wsX2_boxed := goodIn_r _ [50, 15, 16, 6, 17] (by decide +kernel) (by decide +kernel)
set_option maxRecDepth 20000 in
theorem gX2_cast_X2_boxed : GoodIn wsX2_cast (va_wsS RX2 129 yX2_boxed wsX2_boxed) := goodIn_app (goodIn_of _ (by decide +kernel)) ggX2_cast_X2_boxed
theorem dX2_cast_0 : decode cX2_cast 0 = .ok (.aload_n 0, 1) := by decide +kernel
theorem dX2_cast_1 : decode cX2_cast 1 = .ok (.iload_n 1, 1) := by decide +kernel
theorem dX2_cast_2 : decode cX2_cast 2 = .ok (.invokevirtual 219, 3) := by decide +kernel
theorem dX2_cast_5 : decode cX2_cast 5 = .ok (.ifCond .eq 25, 3) := by decide +kernel
theorem dX2_cast_8 : decode cX2_cast 8 = .ok (.aload_n 0, 1) := by decide +kernel
theorem dX2_cast_9 : decode cX2_cast 9 = .ok (.getfield 12, 3) := by decide +kernel
theorem dX2_cast_12 : decode cX2_cast 12 = .ok (.iload_n 2, 1) := by decide +kernel
theorem dX2_cast_13 : decode cX2_cast 13 = .ok (.invokevirtual 50, 3) := by decide +kernel
theorem dX2_cast_16 : decode cX2_cast 16 = .ok (.ifCond .eq 14, 3) := by decide +kernel
theorem dX2_cast_19 : decode cX2_cast 19 = .ok (.aload_n 0, 1) := by decide +kernel
theorem dX2_cast_20 : decode cX2_cast 20 = .ok (.getfield 12, 3) := by decide +kernel
theorem dX2_cast_23 : decode cX2_cast 23 = .ok (.iload_n 3, 1) := by decide +kernel
theorem dX2_cast_24 : decode cX2_cast 24 = .ok (.invokevirtual 50, 3) := by decide +kernel
theorem dX2_cast_27 : decode cX2_cast 27 = .ok (.ifCond .ne 5, 3) := by decide +kernel
theorem dX2_cast_30 : decode cX2_cast 30 = .ok (.iconst (-1), 1) := by decide +kernel
theorem dX2_cast_31 : decode cX2_cast 31 = .ok (.ireturn, 1) := by decide +kernel
theorem dX2_cast_32 : decode cX2_cast 32 = .ok (.aload_n 0, 1) := by decide +kernel
theorem dX2_cast_33 : decode cX2_cast 33 = .ok (.getfield 16, 3) := by decide +kernel
theorem dX2_cast_36 : decode cX2_cast 36 = .ok (.iload_n 1, 1) := by decide +kernel
theorem dX2_cast_37 : decode cX2_cast 37 = .ok (.iaload, 1) := by decide +kernel
theorem dX2_cast_38 : decode cX2_cast 38 = .ok (.istore 4, 2) := by decide +kernel
theorem dX2_cast_40 : decode cX2_cast 40 = .ok (.iload_n 2, 1) := by decide +kernel
theorem dX2_cast_41 : decode cX2_cast 41 = .ok (.invokestatic 72, 3) := by decide +kernel
theorem dX2_cast_44 : decode cX2_cast 44 = .ok (.ifCond .ne 16, 3) := by decide +kernel
theorem dX2_cast_47 : decode cX2_cast 47 = .ok (.aload_n 0, 1) := by decide +kernel
theorem dX2_cast_48 : decode cX2_cast 48 = .ok (.getfield 12, 3) := by decide +kernel
theorem dX2_cast_51 : decode cX2_cast 51 = .ok (.iload 4, 2) := by decide +kernel
theorem dX2_cast_53 : decode cX2_cast 53 = .ok (.iload_n 2, 1) := by decide +kernel
theorem dX2_cast_54 : decode cX2_cast 54 = .ok (.invokevirtual 75, 3) := by decide +kernel
theorem dX2_cast_57 : decode cX2_cast 57 = .ok (.ifCond .ne 6, 3) := by decide +kernel
theorem dX2_cast_60 : decode cX2_cast 60 = .ok (.bipush (-2), 2) := by decide +kernel
theorem dX2_cast_62 : decode cX2_cast 62 = .ok (.ireturn, 1) := by decide +kernel
theorem dX2_cast_63 : decode cX2_cast 63 = .ok (.aload_n 0, 1) := by decide +kernel
theorem dX2_cast_64 : decode cX2_cast 64 = .ok (.iload_n 2, 1) := by decide +kernel
theorem dX2_cast_65 : decode cX2_cast 65 = .ok (.iload_n 3, 1) := by decide +kernel
theorem dX2_cast_66 : decode cX2_cast 66 = .ok (.iconst 3, 1) := by decide +kernel
theorem dX2_cast_67 : decode cX2_cast 67 = .ok (.invokevirtual 82, 3) := by decide +kernel
theorem dX2_cast_70 : decode cX2_cast 70 = .ok (.istore 5, 2) := by decide +kernel
theorem dX2_cast_72 : decode cX2_cast 72 = .ok (.iload 5, 2) := by decide +kernel
theorem dX2_cast_74 : decode cX2_cast 74 = .ok (.ifCond .ne 6, 3) := by decide +kernel
theorem dX2_cast_77 : decode cX2_cast 77 = .ok (.bipush (-2), 2) := by decide +kernel
theorem dX2_cast_79 : decode cX2_cast 79 = .ok (.ireturn, 1) := by decide +kernel
theorem dX2_cast_80 : decode cX2_cast 80 = .ok (.iload 4, 2) := by decide +kernel
theorem dX2_cast_82 : decode cX2_cast 82 = .ok (.bipush 22, 2) := by decide +kernel
theorem dX2_cast_84 : decode cX2_cast 84 = .ok (.if_icmp .ne 16, 3) := by decide +kernel
theorem dX2_cast_87 : decode cX2_cast 87 = .ok (.iload_n 3, 1) := by decide +kernel
theorem dX2_cast_88 : decode cX2_cast 88 = .ok (.invokestatic 72, 3) := by decide +kernel
theorem dX2_cast_91 : decode cX2_cast 91 = .ok (.ifCond .eq 7, 3) := by decide +kernel
theorem dX2_cast_94 : decode cX2_cast 94 = .ok (.iconst 2, 1) := by decide +kernel
theorem dX2_cast_95 : decode cX2_cast 95 = .ok (.goto 4, 3) := by decide +kernel
theorem dX2_cast_98 : decode cX2_cast 98 = .ok (.iconst 1, 1) := by decide +kernel
theorem dX2_cast_99 : decode cX2_cast 99 = .ok (.ireturn, 1) := by decide +kernel
theorem dX2_cast_100 : decode cX2_cast 100 = .ok (.iload 5, 2) := by decide +kernel
theorem dX2_cast_102 : decode cX2_cast 102 = .ok (.bipush 8, 2) := by decide +kernel
theorem dX2_cast_104 : decode cX2_cast 104 = .ok (.if_icmp .eq 19, 3) := by decide +kernel
theorem dX2_cast_107 : decode cX2_cast 107 = .ok (.aload_n 0, 1) := by decide +kernel
theorem dX2_cast_108 : decode cX2_cast 108 = .ok (.getfield 12, 3) := by decide +kernel
theorem dX2_cast_111 : decode cX2_cast 111 = .ok (.iload 4, 2) := by decide +kernel
theorem dX2_cast_113 : decode cX2_cast 113 = .ok (.iload_n 3, 1) := by decide +kernel
theorem dX2_cast_114 : decode cX2_cast 114 = .ok (.invokestatic 129, 3) := by decide +kernel
theorem dX2_cast_117 : decode cX2_cast 117 = .ok (.invokevirtual 75, 3) := by decide +kernel
theorem dX2_cast_120 : decode cX2_cast 120 = .ok (.ifCond .eq 7, 3) := by decide +kernel
theorem dX2_cast_123 : decode cX2_cast 123 = .ok (.iconst 1, 1) := by decide +kernel
theorem dX2_cast_124 : decode cX2_cast 124 = .ok (.goto 4, 3) := by decide +kernel
theorem dX2_cast_127 : decode cX2_cast 127 = .ok (.iconst 0, 1) := by decide +kernel
theorem dX2_cast_128 : decode cX2_cast 128 = .ok (.istore 6, 2) := by decide +kernel
theorem dX2_cast_130 : decode cX2_cast 130 = .ok (.iload 6, 2) := by decide +kernel
theorem dX2_cast_132 : decode cX2_cast 132 = .ok (.ifCond .eq 7, 3) := by decide +kernel
theorem dX2_cast_135 : decode cX2_cast 135 = .ok (.iconst 1, 1) := by decide +kernel
theorem dX2_cast_136 : decode cX2_cast 136 = .ok (.goto 4, 3) := by decide +kernel
theorem dX2_cast_139 : decode cX2_cast 139 = .ok (.iconst 0, 1) := by decide +kernel
theorem dX2_cast_140 : decode cX2_cast 140 = .ok (.ireturn, 1) := by decide +kernel
set_option maxRecDepth 20000 in
theorem ggX2_count_X1_size : GoodIn wsX2_count wsX1_size := goodIn_r _ [7, 8, 13, 14, 15, 16, 17] (by decide +kernel) (by decide +kernel)
set_option maxRecDepth 20000 in
theorem gX2_count_X1_size : GoodIn wsX2_count (wsV RX2 97 RX1 yX1_size wsX1_size) := goodIn_app (goodIn_of _ (by decide +kernel)) ggX2_count_X1_size
theorem dX2_count_0 : decode cX2_count 0 = .ok (.iload_n 1, 1) := by decide +kernel
theorem dX2_count_1 : decode cX2_count 1 = .ok (.lookupswitch 40 #[(0, 27), (1, 35)], 27) := by decide +kernel
theorem dX2_count_28 : decode cX2_count 28 = .ok (.aload_n 0, 1) := by decide +kernel
theorem dX2_count_29 : decode cX2_count 29 = .ok (.getfield 12, 3) := by decide +kernel
theorem dX2_count_32 : decode cX2_count 32 = .ok (.invokevirtual 97, 3) := by decide +kernel
theorem dX2_count_35 : decode cX2_count 35 = .ok (.ireturn, 1) := by decide +kernel
theorem dX2_count_36 : decode cX2_count 36 = .ok (.aload_n 0, 1) := by decide +kernel
theorem dX2_count_37 : decode cX2_count 37 = .ok (.getfield 24, 3) := by decide +kernel
theorem dX2_count_40 : decode cX2_count 40 = .ok (.ireturn, 1) := by decide +kernel
theorem dX2_count_41 : decode cX2_count 41 = .ok (.iconst (-1), 1) := by decide +kernel
theorem dX2_count_42 : decode cX2_count 42 = .ok (.ireturn, 1) := by decide +kernel
theorem dX2_isObject_0 : decode cX2_isObject 0 = .ok (.iload_n 1, 1) := by decide +kernel
theorem dX2_isObject_1 : decode cX2_isObject 1 = .ok (.ifCond .lt 15, 3) := by decide +kernel
theorem dX2_isObject_4 : decode cX2_isObject 4 = .ok (.iload_n 1, 1) := by decide +kernel
theorem dX2_isObject_5 : decode cX2_isObject 5 = .ok (.aload_n 0, 1) := by decide +kernel
theorem dX2_isObject_6 : decode cX2_isObject 6 = .ok (.getfield 24, 3) := by decide +kernel
theorem dX2_isObject_9 : decode cX2_isObject 9 = .ok (.if_icmp .ge 7, 3) := by decide +kernel
theorem dX2_isObject_12 : decode cX2_isObject 12 = .ok (.iconst 1, 1) := by decide +kernel
theorem dX2_isObject_13 : decode cX2_isObject 13 = .ok (.goto 4, 3) := by decide +kernel
theorem dX2_isObject_16 : decode cX2_isObject 16 = .ok (.iconst 0, 1) := by decide +kernel
theorem dX2_isObject_17 : decode cX2_isObject 17 = .ok (.ireturn, 1) := by decide +kernel
theorem dX2_isFullOfObjects_0 : decode cX2_isFullOfObjects 0 = .ok (.aload_n 0, 1) := by decide +kernel
theorem dX2_isFullOfObjects_1 : decode cX2_isFullOfObjects 1 = .ok (.getfield 24, 3) := by decide +kernel
theorem dX2_isFullOfObjects_4 : decode cX2_isFullOfObjects 4 = .ok (.bipush 60, 2) := by decide +kernel
theorem dX2_isFullOfObjects_6 : decode cX2_isFullOfObjects 6 = .ok (.if_icmp .lt 7, 3) := by decide +kernel
theorem dX2_isFullOfObjects_9 : decode cX2_isFullOfObjects 9 = .ok (.iconst 1, 1) := by decide +kernel
theorem dX2_isFullOfObjects_10 : decode cX2_isFullOfObjects 10 = .ok (.goto 4, 3) := by decide +kernel
theorem dX2_isFullOfObjects_13 : decode cX2_isFullOfObjects 13 = .ok (.iconst 0, 1) := by decide +kernel
theorem dX2_isFullOfObjects_14 : decode cX2_isFullOfObjects 14 = .ok (.ireturn, 1) := by decide +kernel
set_option maxRecDepth 20000 in
theorem ggX2_mayBeMade_X1_sortOf : GoodIn wsX2_mayBeMade wsX1_sortOf := goodIn_ca (goodIn_r _ [6, 7, 12, 13, 14, 15, 16] (by decide +kernel) (by decide +kernel)) (goodIn_sub (fun _ h => List.mem_cons_of_mem _ (List.mem_append_right _ h)) (by decide +kernel))
set_option maxRecDepth 20000 in
theorem gX2_mayBeMade_X1_sortOf : GoodIn wsX2_mayBeMade (wsV RX2 60 RX1 yX1_sortOf wsX1_sortOf) := goodIn_app (goodIn_of _ (by decide +kernel)) ggX2_mayBeMade_X1_sortOf
theorem dX2_mayBeMade_0 : decode cX2_mayBeMade 0 = .ok (.iload_n 1, 1) := by decide +kernel
theorem dX2_mayBeMade_1 : decode cX2_mayBeMade 1 = .ok (.bipush 23, 2) := by decide +kernel
theorem dX2_mayBeMade_3 : decode cX2_mayBeMade 3 = .ok (.if_icmp .ge 27, 3) := by decide +kernel
theorem dX2_mayBeMade_6 : decode cX2_mayBeMade 6 = .ok (.iload_n 1, 1) := by decide +kernel
theorem dX2_mayBeMade_7 : decode cX2_mayBeMade 7 = .ok (.bipush 16, 2) := by decide +kernel
theorem dX2_mayBeMade_9 : decode cX2_mayBeMade 9 = .ok (.if_icmp .eq 15, 3) := by decide +kernel
theorem dX2_mayBeMade_12 : decode cX2_mayBeMade 12 = .ok (.iload_n 1, 1) := by decide +kernel
theorem dX2_mayBeMade_13 : decode cX2_mayBeMade 13 = .ok (.bipush 21, 2) := by decide +kernel
theorem dX2_mayBeMade_15 : decode cX2_mayBeMade 15 = .ok (.if_icmp .eq 9, 3) := by decide +kernel
theorem dX2_mayBeMade_18 : decode cX2_mayBeMade 18 = .ok (.iload_n 1, 1) := by decide +kernel
theorem dX2_mayBeMade_19 : decode cX2_mayBeMade 19 = .ok (.bipush 22, 2) := by decide +kernel
theorem dX2_mayBeMade_21 : decode cX2_mayBeMade 21 = .ok (.if_icmp .ne 7, 3) := by decide +kernel
theorem dX2_mayBeMade_24 : decode cX2_mayBeMade 24 = .ok (.iconst 1, 1) := by decide +kernel
theorem dX2_mayBeMade_25 : decode cX2_mayBeMade 25 = .ok (.goto 4, 3) := by decide +kernel
theorem dX2_mayBeMade_28 : decode cX2_mayBeMade 28 = .ok (.iconst 0, 1) := by decide +kernel
theorem dX2_mayBeMade_29 : decode cX2_mayBeMade 29 = .ok (.ireturn, 1) := by decide +kernel
theorem dX2_mayBeMade_30 : decode cX2_mayBeMade 30 = .ok (.aload_n 0, 1) := by decide +kernel
theorem dX2_mayBeMade_31 : decode cX2_mayBeMade 31 = .ok (.getfield 12, 3) := by decide +kernel
theorem dX2_mayBeMade_34 : decode cX2_mayBeMade 34 = .ok (.iload_n 1, 1) := by decide +kernel
theorem dX2_mayBeMade_35 : decode cX2_mayBeMade 35 = .ok (.invokevirtual 60, 3) := by decide +kernel
theorem dX2_mayBeMade_38 : decode cX2_mayBeMade 38 = .ok (.iconst 2, 1) := by decide +kernel
theorem dX2_mayBeMade_39 : decode cX2_mayBeMade 39 = .ok (.if_icmp .eq 7, 3) := by decide +kernel
theorem dX2_mayBeMade_42 : decode cX2_mayBeMade 42 = .ok (.iconst 1, 1) := by decide +kernel
theorem dX2_mayBeMade_43 : decode cX2_mayBeMade 43 = .ok (.goto 4, 3) := by decide +kernel
theorem dX2_mayBeMade_46 : decode cX2_mayBeMade 46 = .ok (.iconst 0, 1) := by decide +kernel
theorem dX2_mayBeMade_47 : decode cX2_mayBeMade 47 = .ok (.ireturn, 1) := by decide +kernel
theorem dX2_addObject_0 : decode cX2_addObject 0 = .ok (.aload_n 0, 1) := by decide +kernel
theorem dX2_addObject_1 : decode cX2_addObject 1 = .ok (.getfield 24, 3) := by decide +kernel
theorem dX2_addObject_4 : decode cX2_addObject 4 = .ok (.istore 4, 2) := by decide +kernel
theorem dX2_addObject_6 : decode cX2_addObject 6 = .ok (.aload_n 0, 1) := by decide +kernel
theorem dX2_addObject_7 : decode cX2_addObject 7 = .ok (.getfield 16, 3) := by decide +kernel
theorem dX2_addObject_10 : decode cX2_addObject 10 = .ok (.iload 4, 2) := by decide +kernel
theorem dX2_addObject_12 : decode cX2_addObject 12 = .ok (.iload_n 1, 1) := by decide +kernel
theorem dX2_addObject_13 : decode cX2_addObject 13 = .ok (.iastore, 1) := by decide +kernel
theorem dX2_addObject_14 : decode cX2_addObject 14 = .ok (.aload_n 0, 1) := by decide +kernel
theorem dX2_addObject_15 : decode cX2_addObject 15 = .ok (.getfield 20, 3) := by decide +kernel
theorem dX2_addObject_18 : decode cX2_addObject 18 = .ok (.iload 4, 2) := by decide +kernel
theorem dX2_addObject_20 : decode cX2_addObject 20 = .ok (.lload_n 2, 1) := by decide +kernel
theorem dX2_addObject_21 : decode cX2_addObject 21 = .ok (.lastore, 1) := by decide +kernel
theorem dX2_addObject_22 : decode cX2_addObject 22 = .ok (.aload_n 0, 1) := by decide +kernel
theorem dX2_addObject_23 : decode cX2_addObject 23 = .ok (.dup, 1) := by decide +kernel
theorem dX2_addObject_24 : decode cX2_addObject 24 = .ok (.getfield 24, 3) := by decide +kernel
theorem dX2_addObject_27 : decode cX2_addObject 27 = .ok (.iconst 1, 1) := by decide +kernel
theorem dX2_addObject_28 : decode cX2_addObject 28 = .ok (.iadd, 1) := by decide +kernel
theorem dX2_addObject_29 : decode cX2_addObject 29 = .ok (.putfield 24, 3) := by decide +kernel
theorem dX2_addObject_32 : decode cX2_addObject 32 = .ok (.iload 4, 2) := by decide +kernel
theorem dX2_addObject_34 : decode cX2_addObject 34 = .ok (.ireturn, 1) := by decide +kernel
set_option maxRecDepth 20000 in
theorem ggX2_withOneNaN_X2_formatOf : GoodIn wsX2_withOneNaN wsX2_formatOf := goodIn_r _ [4, 5, 6] (by decide +kernel) (by decide +kernel)
set_option maxRecDepth 20000 in
theorem gX2_withOneNaN_X2_formatOf : GoodIn wsX2_withOneNaN (va_wsS RX2 177 yX2_formatOf wsX2_formatOf) := goodIn_app (goodIn_of _ (by decide +kernel)) ggX2_withOneNaN_X2_formatOf
set_option maxRecDepth 20000 in
theorem ggX2_withOneNaN_X0_fromFormat : GoodIn wsX2_withOneNaN wsX0_fromFormat := goodIn_ca (goodIn_r _ [11, 12, 13, 14, 15, 16, 10, 17, 18, 19, 20, 21, 22, 23, 24, 25, 26, 27, 28, 29, 30, 31, 32, 33, 34, 35, 36, 37, 38, 39, 40, 41, 42, 43, 44, 45, 46, 47, 48, 49, 50, 51, 52, 53, 54, 55, 56, 57, 58, 59, 60, 61, 62, 63, 64, 65, 66] (by decide +kernel) (by decide +kernel)) (goodIn_sub (fun _ h => List.mem_cons_of_mem _ (List.mem_append_right _ h)) (by decide +kernel))
set_option maxRecDepth 20000 in
theorem gX2_withOneNaN_X0_fromFormat : GoodIn wsX2_withOneNaN (wsV RX2 185 RX0 yX0_fromFormat wsX0_fromFormat) := goodIn_app (goodIn_of _ (by decide +kernel)) ggX2_withOneNaN_X0_fromFormat
theorem dX2_withOneNaN_0 : decode cX2_withOneNaN 0 = .ok (.iload_n 0, 1) := by decide +kernel
theorem dX2_withOneNaN_1 : decode cX2_withOneNaN 1 = .ok (.bipush 6, 2) := by decide +kernel
theorem dX2_withOneNaN_3 : decode cX2_withOneNaN 3 = .ok (.if_icmp .ge 5, 3) := by decide +kernel
theorem dX2_withOneNaN_6 : decode cX2_withOneNaN 6 = .ok (.lload_n 1, 1) := by decide +kernel
theorem dX2_withOneNaN_7 : decode cX2_withOneNaN 7 = .ok (.lreturn, 1) := by decide +kernel
theorem dX2_withOneNaN_8 : decode cX2_withOneNaN 8 = .ok (.iload_n 0, 1) := by decide +kernel
theorem dX2_withOneNaN_9 : decode cX2_withOneNaN 9 = .ok (.invokestatic 177, 3) := by decide +kernel
theorem dX2_withOneNaN_12 : decode cX2_withOneNaN 12 = .ok (.astore_n 3, 1) := by decide +kernel
theorem dX2_withOneNaN_13 : decode cX2_withOneNaN 13 = .ok (.aload_n 3, 1) := by decide +kernel
theorem dX2_withOneNaN_14 : decode cX2_withOneNaN 14 = .ok (.aload_n 3, 1) := by decide +kernel
theorem dX2_withOneNaN_15 : decode cX2_withOneNaN 15 = .ok (.lload_n 1, 1) := by decide +kernel
theorem dX2_withOneNaN_16 : decode cX2_withOneNaN 16 = .ok (.invokevirtual 185, 3) := by decide +kernel
theorem dX2_withOneNaN_19 : decode cX2_withOneNaN 19 = .ok (.lreturn, 1) := by decide +kernel
set_option maxRecDepth 20000 in
theorem ggX3_init_X3_add : GoodIn wsX3_init wsX3_add := goodIn_ca (goodIn_r _ [18, 5, 19, 7, 8, 9, 32, 33, 34, 35, 36, 37, 38, 39, 40, 41] (by decide +kernel) (by decide +kernel)) (goodIn_sub (fun _ h => List.mem_cons_of_mem _ (List.mem_append_right _ h)) (by decide +kernel))
set_option maxRecDepth 20000 in
theorem gX3_init_X3_add : GoodIn wsX3_init (wsV RX3 33 RX3 yX3_add wsX3_add) := goodIn_app (goodIn_of _ (by decide +kernel)) ggX3_init_X3_add
set_option maxRecDepth 20000 in
theorem ggX3_init_X3_fill : GoodIn wsX3_init wsX3_fill := goodIn_ca (goodIn_r _ [23, 19, 10, 5, 24, 25, 26, 17, 27, 9, 8, 28, 29, 30, 31, 32, 33, 34, 35, 36, 37, 38, 39, 40, 41] (by decide +kernel) (by decide +kernel)) (goodIn_sub (fun _ h => List.mem_cons_of_mem _ (List.mem_append_right _ h)) (by decide +kernel))
set_option maxRecDepth 20000 in
theorem gX3_init_X3_fill : GoodIn wsX3_init (wsV RX3 37 RX3 yX3_fill wsX3_fill) := goodIn_app (goodIn_of _ (by decide +kernel)) ggX3_init_X3_fill
theorem dX3_init_0 : decode cX3_init 0 = .ok (.aload_n 0, 1) := by decide +kernel
theorem dX3_init_1 : decode cX3_init 1 = .ok (.invokespecial 1, 3) := by decide +kernel
theorem dX3_init_4 : decode cX3_init 4 = .ok (.aload_n 0, 1) := by decide +kernel
theorem dX3_init_5 : decode cX3_init 5 = .ok (.bipush 40, 2) := by decide +kernel
theorem dX3_init_7 : decode cX3_init 7 = .ok (.newarray .int, 2) := by decide +kernel
theorem dX3_init_9 : decode cX3_init 9 = .ok (.putfield 7, 3) := by decide +kernel
theorem dX3_init_12 : decode cX3_init 12 = .ok (.aload_n 0, 1) := by decide +kernel
theorem dX3_init_13 : decode cX3_init 13 = .ok (.bipush 40, 2) := by decide +kernel
theorem dX3_init_15 : decode cX3_init 15 = .ok (.newarray .boolean, 2) := by decide +kernel
theorem dX3_init_17 : decode cX3_init 17 = .ok (.putfield 13, 3) := by decide +kernel
theorem dX3_init_20 : decode cX3_init 20 = .ok (.aload_n 0, 1) := by decide +kernel
theorem dX3_init_21 : decode cX3_init 21 = .ok (.bipush 40, 2) := by decide +kernel
theorem dX3_init_23 : decode cX3_init 23 = .ok (.newarray .int, 2) := by decide +kernel
theorem dX3_init_25 : decode cX3_init 25 = .ok (.putfield 17, 3) := by decide +kernel
theorem dX3_init_28 : decode cX3_init 28 = .ok (.aload_n 0, 1) := by decide +kernel
theorem dX3_init_29 : decode cX3_init 29 = .ok (.bipush 120, 2) := by decide +kernel
theorem dX3_init_31 : decode cX3_init 31 = .ok (.newarray .int, 2) := by decide +kernel
theorem dX3_init_33 : decode cX3_init 33 = .ok (.putfield 20, 3) := by decide +kernel
theorem dX3_init_36 : decode cX3_init 36 = .ok (.aload_n 0, 1) := by decide +kernel
theorem dX3_init_37 : decode cX3_init 37 = .ok (.sipush 1600, 3) := by decide +kernel
theorem dX3_init_40 : decode cX3_init 40 = .ok (.newarray .boolean, 2) := by decide +kernel
theorem dX3_init_42 : decode cX3_init 42 = .ok (.putfield 23, 3) := by decide +kernel
theorem dX3_init_45 : decode cX3_init 45 = .ok (.aload_n 0, 1) := by decide +kernel
theorem dX3_init_46 : decode cX3_init 46 = .ok (.bipush 60, 2) := by decide +kernel
theorem dX3_init_48 : decode cX3_init 48 = .ok (.newarray .int, 2) := by decide +kernel
theorem dX3_init_50 : decode cX3_init 50 = .ok (.putfield 26, 3) := by decide +kernel
theorem dX3_init_53 : decode cX3_init 53 = .ok (.aload_n 0, 1) := by decide +kernel
theorem dX3_init_54 : decode cX3_init 54 = .ok (.bipush 60, 2) := by decide +kernel
theorem dX3_init_56 : decode cX3_init 56 = .ok (.newarray .long, 2) := by decide +kernel
theorem dX3_init_58 : decode cX3_init 58 = .ok (.putfield 29, 3) := by decide +kernel
theorem dX3_init_61 : decode cX3_init 61 = .ok (.iconst 0, 1) := by decide +kernel
theorem dX3_init_62 : decode cX3_init 62 = .ok (.istore_n 1, 1) := by decide +kernel
theorem dX3_init_63 : decode cX3_init 63 = .ok (.iload_n 1, 1) := by decide +kernel
theorem dX3_init_64 : decode cX3_init 64 = .ok (.bipush 8, 2) := by decide +kernel
theorem dX3_init_66 : decode cX3_init 66 = .ok (.if_icmp .ge 21, 3) := by decide +kernel
theorem dX3_init_69 : decode cX3_init 69 = .ok (.aload_n 0, 1) := by decide +kernel
theorem dX3_init_70 : decode cX3_init 70 = .ok (.iconst 0, 1) := by decide +kernel
theorem dX3_init_71 : decode cX3_init 71 = .ok (.iconst 0, 1) := by decide +kernel
theorem dX3_init_72 : decode cX3_init 72 = .ok (.bipush (-2), 2) := by decide +kernel
theorem dX3_init_74 : decode cX3_init 74 = .ok (.iconst (-1), 1) := by decide +kernel
theorem dX3_init_75 : decode cX3_init 75 = .ok (.iconst (-1), 1) := by decide +kernel
theorem dX3_init_76 : decode cX3_init 76 = .ok (.iconst (-1), 1) := by decide +kernel
theorem dX3_init_77 : decode cX3_init 77 = .ok (.invokevirtual 33, 3) := by decide +kernel
theorem dX3_init_80 : decode cX3_init 80 = .ok (.pop, 1) := by decide +kernel
theorem dX3_init_81 : decode cX3_init 81 = .ok (.iinc 1 1, 3) := by decide +kernel
theorem dX3_init_84 : decode cX3_init 84 = .ok (.goto (-21), 3) := by decide +kernel
theorem dX3_init_87 : decode cX3_init 87 = .ok (.bipush 8, 2) := by decide +kernel
theorem dX3_init_89 : decode cX3_init 89 = .ok (.istore_n 1, 1) := by decide +kernel
theorem dX3_init_90 : decode cX3_init 90 = .ok (.iload_n 1, 1) := by decide +kernel
theorem dX3_init_91 : decode cX3_init 91 = .ok (.bipush 16, 2) := by decide +kernel
theorem dX3_init_93 : decode cX3_init 93 = .ok (.if_icmp .ge 47, 3) := by decide +kernel
theorem dX3_init_96 : decode cX3_init 96 = .ok (.iload_n 1, 1) := by decide +kernel
theorem dX3_init_97 : decode cX3_init 97 = .ok (.bipush 10, 2) := by decide +kernel
theorem dX3_init_99 : decode cX3_init 99 = .ok (.if_icmp .ge 21, 3) := by decide +kernel
theorem dX3_init_102 : decode cX3_init 102 = .ok (.aload_n 0, 1) := by decide +kernel
theorem dX3_init_103 : decode cX3_init 103 = .ok (.iconst 1, 1) := by decide +kernel
theorem dX3_init_104 : decode cX3_init 104 = .ok (.iconst 1, 1) := by decide +kernel
theorem dX3_init_105 : decode cX3_init 105 = .ok (.bipush (-2), 2) := by decide +kernel
theorem dX3_init_107 : decode cX3_init 107 = .ok (.bipush 16, 2) := by decide +kernel
theorem dX3_init_109 : decode cX3_init 109 = .ok (.bipush 18, 2) := by decide +kernel
theorem dX3_init_111 : decode cX3_init 111 = .ok (.bipush 19, 2) := by decide +kernel
theorem dX3_init_113 : decode cX3_init 113 = .ok (.invokevirtual 33, 3) := by decide +kernel
theorem dX3_init_116 : decode cX3_init 116 = .ok (.pop, 1) := by decide +kernel
theorem dX3_init_117 : decode cX3_init 117 = .ok (.goto 17, 3) := by decide +kernel
theorem dX3_init_120 : decode cX3_init 120 = .ok (.aload_n 0, 1) := by decide +kernel
theorem dX3_init_121 : decode cX3_init 121 = .ok (.iconst 1, 1) := by decide +kernel
theorem dX3_init_122 : decode cX3_init 122 = .ok (.iconst 1, 1) := by decide +kernel
theorem dX3_init_123 : decode cX3_init 123 = .ok (.bipush (-2), 2) := by decide +kernel
theorem dX3_init_125 : decode cX3_init 125 = .ok (.bipush 17, 2) := by decide +kernel
theorem dX3_init_127 : decode cX3_init 127 = .ok (.bipush 18, 2) := by decide +kernel
theorem dX3_init_129 : decode cX3_init 129 = .ok (.iconst (-1), 1) := by decide +kernel
theorem dX3_init_130 : decode cX3_init 130 = .ok (.invokevirtual 33, 3) := by decide +kernel
theorem dX3_init_133 : decode cX3_init 133 = .ok (.pop, 1) := by decide +kernel
theorem dX3_init_134 : decode cX3_init 134 = .ok (.iinc 1 1, 3) := by decide +kernel
theorem dX3_init_137 : decode cX3_init 137 = .ok (.goto (-47), 3) := by decide +kernel
theorem dX3_init_140 : decode cX3_init 140 = .ok (.aload_n 0, 1) := by decide +kernel
theorem dX3_init_141 : decode cX3_init 141 = .ok (.iconst 1, 1) := by decide +kernel
theorem dX3_init_142 : decode cX3_init 142 = .ok (.iconst 0, 1) := by decide +kernel
theorem dX3_init_143 : decode cX3_init 143 = .ok (.bipush (-2), 2) := by decide +kernel
theorem dX3_init_145 : decode cX3_init 145 = .ok (.iconst (-1), 1) := by decide +kernel
theorem dX3_init_146 : decode cX3_init 146 = .ok (.iconst (-1), 1) := by decide +kernel
theorem dX3_init_147 : decode cX3_init 147 = .ok (.iconst (-1), 1) := by decide +kernel
theorem dX3_init_148 : decode cX3_init 148 = .ok (.invokevirtual 33, 3) := by decide +kernel
theorem dX3_init_151 : decode cX3_init 151 = .ok (.pop, 1) := by decide +kernel
theorem dX3_init_152 : decode cX3_init 152 = .ok (.aload_n 0, 1) := by decide +kernel
theorem dX3_init_153 : decode cX3_init 153 = .ok (.iconst 1, 1) := by decide +kernel
theorem dX3_init_154 : decode cX3_init 154 = .ok (.iconst 0, 1) := by decide +kernel
theorem dX3_init_155 : decode cX3_init 155 = .ok (.bipush (-2), 2) := by decide +kernel
theorem dX3_init_157 : decode cX3_init 157 = .ok (.bipush 16, 2) := by decide +kernel
theorem dX3_init_159 : decode cX3_init 159 = .ok (.bipush 19, 2) := by decide +kernel
theorem dX3_init_161 : decode cX3_init 161 = .ok (.iconst (-1), 1) := by decide +kernel
theorem dX3_init_162 : decode cX3_init 162 = .ok (.invokevirtual 33, 3) := by decide +kernel
theorem dX3_init_165 : decode cX3_init 165 = .ok (.pop, 1) := by decide +kernel
theorem dX3_init_166 : decode cX3_init 166 = .ok (.aload_n 0, 1) := by decide +kernel
theorem dX3_init_167 : decode cX3_init 167 = .ok (.iconst 2, 1) := by decide +kernel
theorem dX3_init_168 : decode cX3_init 168 = .ok (.iconst 0, 1) := by decide +kernel
theorem dX3_init_169 : decode cX3_init 169 = .ok (.bipush (-2), 2) := by decide +kernel
theorem dX3_init_171 : decode cX3_init 171 = .ok (.bipush 16, 2) := by decide +kernel
theorem dX3_init_173 : decode cX3_init 173 = .ok (.iconst (-1), 1) := by decide +kernel
theorem dX3_init_174 : decode cX3_init 174 = .ok (.iconst (-1), 1) := by decide +kernel
theorem dX3_init_175 : decode cX3_init 175 = .ok (.invokevirtual 33, 3) := by decide +kernel
theorem dX3_init_178 : decode cX3_init 178 = .ok (.pop, 1) := by decide +kernel
theorem dX3_init_179 : decode cX3_init 179 = .ok (.aload_n 0, 1) := by decide +kernel
theorem dX3_init_180 : decode cX3_init 180 = .ok (.iconst 2, 1) := by decide +kernel
theorem dX3_init_181 : decode cX3_init 181 = .ok (.iconst 0, 1) := by decide +kernel
theorem dX3_init_182 : decode cX3_init 182 = .ok (.bipush (-2), 2) := by decide +kernel
theorem dX3_init_184 : decode cX3_init 184 = .ok (.bipush 16, 2) := by decide +kernel
theorem dX3_init_186 : decode cX3_init 186 = .ok (.iconst (-1), 1) := by decide +kernel
theorem dX3_init_187 : decode cX3_init 187 = .ok (.iconst (-1), 1) := by decide +kernel
theorem dX3_init_188 : decode cX3_init 188 = .ok (.invokevirtual 33, 3) := by decide +kernel
theorem dX3_init_191 : decode cX3_init 191 = .ok (.pop, 1) := by decide +kernel
theorem dX3_init_192 : decode cX3_init 192 = .ok (.aload_n 0, 1) := by decide +kernel
theorem dX3_init_193 : decode cX3_init 193 = .ok (.iconst 2, 1) := by decide +kernel
theorem dX3_init_194 : decode cX3_init 194 = .ok (.iconst 0, 1) := by decide +kernel
theorem dX3_init_195 : decode cX3_init 195 = .ok (.bipush (-2), 2) := by decide +kernel
theorem dX3_init_197 : decode cX3_init 197 = .ok (.bipush 16, 2) := by decide +kernel
theorem dX3_init_199 : decode cX3_init 199 = .ok (.iconst (-1), 1) := by decide +kernel
theorem dX3_init_200 : decode cX3_init 200 = .ok (.iconst (-1), 1) := by decide +kernel
theorem dX3_init_201 : decode cX3_init 201 = .ok (.invokevirtual 33, 3) := by decide +kernel
theorem dX3_init_204 : decode cX3_init 204 = .ok (.pop, 1) := by decide +kernel
theorem dX3_init_205 : decode cX3_init 205 = .ok (.aload_n 0, 1) := by decide +kernel
theorem dX3_init_206 : decode cX3_init 206 = .ok (.iconst 1, 1) := by decide +kernel
theorem dX3_init_207 : decode cX3_init 207 = .ok (.iconst 1, 1) := by decide +kernel
theorem dX3_init_208 : decode cX3_init 208 = .ok (.bipush (-2), 2) := by decide +kernel
theorem dX3_init_210 : decode cX3_init 210 = .ok (.bipush 16, 2) := by decide +kernel
theorem dX3_init_212 : decode cX3_init 212 = .ok (.bipush 18, 2) := by decide +kernel
theorem dX3_init_214 : decode cX3_init 214 = .ok (.bipush 19, 2) := by decide +kernel
theorem dX3_init_216 : decode cX3_init 216 = .ok (.invokevirtual 33, 3) := by decide +kernel
theorem dX3_init_219 : decode cX3_init 219 = .ok (.pop, 1) := by decide +kernel
theorem dX3_init_220 : decode cX3_init 220 = .ok (.aload_n 0, 1) := by decide +kernel
theorem dX3_init_221 : decode cX3_init 221 = .ok (.iconst 4, 1) := by decide +kernel
theorem dX3_init_222 : decode cX3_init 222 = .ok (.iconst 0, 1) := by decide +kernel
theorem dX3_init_223 : decode cX3_init 223 = .ok (.bipush (-2), 2) := by decide +kernel
theorem dX3_init_225 : decode cX3_init 225 = .ok (.iconst (-1), 1) := by decide +kernel
theorem dX3_init_226 : decode cX3_init 226 = .ok (.iconst (-1), 1) := by decide +kernel
theorem dX3_init_227 : decode cX3_init 227 = .ok (.iconst (-1), 1) := by decide +kernel
theorem dX3_init_228 : decode cX3_init 228 = .ok (.invokevirtual 33, 3) := by decide +kernel
theorem dX3_init_231 : decode cX3_init 231 = .ok (.pop, 1) := by decide +kernel
theorem dX3_init_232 : decode cX3_init 232 = .ok (.aload_n 0, 1) := by decide +kernel
theorem dX3_init_233 : decode cX3_init 233 = .ok (.invokevirtual 37, 3) := by decide +kernel
theorem dX3_init_236 : decode cX3_init 236 = .ok (.return_, 1) := by decide +kernel
theorem dX3_thrown_0 : decode cX3_thrown 0 = .ok (.aload_n 0, 1) := by decide +kernel
theorem dX3_thrown_1 : decode cX3_thrown 1 = .ok (.getfield 40, 3) := by decide +kernel
theorem dX3_thrown_4 : decode cX3_thrown 4 = .ok (.ireturn, 1) := by decide +kernel
theorem dX3_in_0 : decode cX3_in 0 = .ok (.iload_n 0, 1) := by decide +kernel
theorem dX3_in_1 : decode cX3_in 1 = .ok (.iload_n 1, 1) := by decide +kernel
theorem dX3_in_2 : decode cX3_in 2 = .ok (.if_icmp .lt 12, 3) := by decide +kernel
theorem dX3_in_5 : decode cX3_in 5 = .ok (.iload_n 0, 1) := by decide +kernel
theorem dX3_in_6 : decode cX3_in 6 = .ok (.iload_n 2, 1) := by decide +kernel
theorem dX3_in_7 : decode cX3_in 7 = .ok (.if_icmp .gt 7, 3) := by decide +kernel
theorem dX3_in_10 : decode cX3_in 10 = .ok (.iconst 1, 1) := by decide +kernel
theorem dX3_in_11 : decode cX3_in 11 = .ok (.goto 4, 3) := by decide +kernel
theorem dX3_in_14 : decode cX3_in 14 = .ok (.iconst 0, 1) := by decide +kernel
theorem dX3_in_15 : decode cX3_in 15 = .ok (.ireturn, 1) := by decide +kernel
set_option maxRecDepth 20000 in
theorem ggX3_isType_X3_in : GoodIn wsX3_isType wsX3_in := goodIn_r _ [5] (by decide +kernel) (by decide +kernel)
set_option maxRecDepth 20000 in
theorem gX3_isType_X3_in : GoodIn wsX3_isType (va_wsS RX3 47 yX3_in wsX3_in) := goodIn_app (goodIn_of _ (by decide +kernel)) ggX3_isType_X3_in
theorem dX3_isType_0 : decode cX3_isType 0 = .ok (.iload_n 1, 1) := by decide +kernel
theorem dX3_isType_1 : decode cX3_isType 1 = .ok (.iconst 0, 1) := by decide +kernel
theorem dX3_isType_2 : decode cX3_isType 2 = .ok (.aload_n 0, 1) := by decide +kernel
theorem dX3_isType_3 : decode cX3_isType 3 = .ok (.getfield 44, 3) := by decide +kernel
theorem dX3_isType_6 : decode cX3_isType 6 = .ok (.iconst 1, 1) := by decide +kernel
theorem dX3_isType_7 : decode cX3_isType 7 = .ok (.isub, 1) := by decide +kernel
theorem dX3_isType_8 : decode cX3_isType 8 = .ok (.invokestatic 47, 3) := by decide +kernel
theorem dX3_isType_11 : decode cX3_isType 11 = .ok (.ireturn, 1) := by decide +kernel
set_option maxRecDepth 20000 in
theorem ggX3_isNumber_X3_in : GoodIn wsX3_isNumber wsX3_in := goodIn_r _ [4] (by decide +kernel) (by decide +kernel)
set_option maxRecDepth 20000 in
theorem gX3_isNumber_X3_in : GoodIn wsX3_isNumber (va_wsS RX3 47 yX3_in wsX3_in) := goodIn_app (goodIn_of _ (by decide +kernel)) ggX3_isNumber_X3_in
theorem dX3_isNumber_0 : decode cX3_isNumber 0 = .ok (.iload_n 0, 1) := by decide +kernel
theorem dX3_isNumber_1 : decode cX3_isNumber 1 = .ok (.iconst 1, 1) := by decide +kernel
theorem dX3_isNumber_2 : decode cX3_isNumber 2 = .ok (.bipush 7, 2) := by decide +kernel
theorem dX3_isNumber_4 : decode cX3_isNumber 4 = .ok (.invokestatic 47, 3) := by decide +kernel
theorem dX3_isNumber_7 : decode cX3_isNumber 7 = .ok (.ireturn, 1) := by decide +kernel
set_option maxRecDepth 20000 in
theorem ggX3_isBox_X3_in : GoodIn wsX3_isBox wsX3_in := goodIn_r _ [4] (by decide +kernel) (by decide +kernel)
set_option maxRecDepth 20000 in
theorem gX3_isBox_X3_in : GoodIn wsX3_isBox (va_wsS RX3 47 yX3_in wsX3_in) := goodIn_app (goodIn_of _ (by decide +kernel)) ggX3_isBox_X3_in
theorem dX3_isBox_0 : decode cX3_isBox 0 = .ok (.iload_n 0, 1) := by decide +kernel
theorem dX3_isBox_1 : decode cX3_isBox 1 = .ok (.bipush 8, 2) := by decide +kernel
theorem dX3_isBox_3 : decode cX3_isBox 3 = .ok (.bipush 15, 2) := by decide +kernel
theorem dX3_isBox_5 : decode cX3_isBox 5 = .ok (.invokestatic 47, 3) := by decide +kernel
theorem dX3_isBox_8 : decode cX3_isBox 8 = .ok (.ireturn, 1) := by decide +kernel
theorem dX3_isReference_0 : decode cX3_isReference 0 = .ok (.iload_n 1, 1) := by decide +kernel
theorem dX3_isReference_1 : decode cX3_isReference 1 = .ok (.bipush 7, 2) := by decide +kernel
theorem dX3_isReference_3 : decode cX3_isReference 3 = .ok (.if_icmp .le 7, 3) := by decide +kernel
theorem dX3_isReference_6 : decode cX3_isReference 6 = .ok (.iconst 1, 1) := by decide +kernel
theorem dX3_isReference_7 : decode cX3_isReference 7 = .ok (.goto 4, 3) := by decide +kernel
theorem dX3_isReference_10 : decode cX3_isReference 10 = .ok (.iconst 0, 1) := by decide +kernel
theorem dX3_isReference_11 : decode cX3_isReference 11 = .ok (.ireturn, 1) := by decide +kernel
theorem dX3_add_0 : decode cX3_add 0 = .ok (.aload_n 0, 1) := by decide +kernel
theorem dX3_add_1 : decode cX3_add 1 = .ok (.getfield 7, 3) := by decide +kernel
theorem dX3_add_4 : decode cX3_add 4 = .ok (.aload_n 0, 1) := by decide +kernel
theorem dX3_add_5 : decode cX3_add 5 = .ok (.getfield 44, 3) := by decide +kernel
theorem dX3_add_8 : decode cX3_add 8 = .ok (.iload_n 1, 1) := by decide +kernel
theorem dX3_add_9 : decode cX3_add 9 = .ok (.iastore, 1) := by decide +kernel
theorem dX3_add_10 : decode cX3_add 10 = .ok (.aload_n 0, 1) := by decide +kernel
theorem dX3_add_11 : decode cX3_add 11 = .ok (.getfield 13, 3) := by decide +kernel
theorem dX3_add_14 : decode cX3_add 14 = .ok (.aload_n 0, 1) := by decide +kernel
theorem dX3_add_15 : decode cX3_add 15 = .ok (.getfield 44, 3) := by decide +kernel
theorem dX3_add_18 : decode cX3_add 18 = .ok (.iload_n 2, 1) := by decide +kernel
theorem dX3_add_19 : decode cX3_add 19 = .ok (.bastore, 1) := by decide +kernel
theorem dX3_add_20 : decode cX3_add 20 = .ok (.aload_n 0, 1) := by decide +kernel
theorem dX3_add_21 : decode cX3_add 21 = .ok (.getfield 17, 3) := by decide +kernel
theorem dX3_add_24 : decode cX3_add 24 = .ok (.aload_n 0, 1) := by decide +kernel
theorem dX3_add_25 : decode cX3_add 25 = .ok (.getfield 44, 3) := by decide +kernel
theorem dX3_add_28 : decode cX3_add 28 = .ok (.iload_n 3, 1) := by decide +kernel
theorem dX3_add_29 : decode cX3_add 29 = .ok (.iastore, 1) := by decide +kernel
theorem dX3_add_30 : decode cX3_add 30 = .ok (.aload_n 0, 1) := by decide +kernel
theorem dX3_add_31 : decode cX3_add 31 = .ok (.getfield 20, 3) := by decide +kernel
theorem dX3_add_34 : decode cX3_add 34 = .ok (.iconst 3, 1) := by decide +kernel
theorem dX3_add_35 : decode cX3_add 35 = .ok (.aload_n 0, 1) := by decide +kernel
theorem dX3_add_36 : decode cX3_add 36 = .ok (.getfield 44, 3) := by decide +kernel
theorem dX3_add_39 : decode cX3_add 39 = .ok (.imul, 1) := by decide +kernel
theorem dX3_add_40 : decode cX3_add 40 = .ok (.iload 4, 2) := by decide +kernel
theorem dX3_add_42 : decode cX3_add 42 = .ok (.iastore, 1) := by decide +kernel
theorem dX3_add_43 : decode cX3_add 43 = .ok (.aload_n 0, 1) := by decide +kernel
theorem dX3_add_44 : decode cX3_add 44 = .ok (.getfield 20, 3) := by decide +kernel
theorem dX3_add_47 : decode cX3_add 47 = .ok (.iconst 3, 1) := by decide +kernel
theorem dX3_add_48 : decode cX3_add 48 = .ok (.aload_n 0, 1) := by decide +kernel
theorem dX3_add_49 : decode cX3_add 49 = .ok (.getfield 44, 3) := by decide +kernel
theorem dX3_add_52 : decode cX3_add 52 = .ok (.imul, 1) := by decide +kernel
theorem dX3_add_53 : decode cX3_add 53 = .ok (.iconst 1, 1) := by decide +kernel
theorem dX3_add_54 : decode cX3_add 54 = .ok (.iadd, 1) := by decide +kernel
theorem dX3_add_55 : decode cX3_add 55 = .ok (.iload 5, 2) := by decide +kernel
theorem dX3_add_57 : decode cX3_add 57 = .ok (.iastore, 1) := by decide +kernel
theorem dX3_add_58 : decode cX3_add 58 = .ok (.aload_n 0, 1) := by decide +kernel
theorem dX3_add_59 : decode cX3_add 59 = .ok (.getfield 20, 3) := by decide +kernel
theorem dX3_add_62 : decode cX3_add 62 = .ok (.iconst 3, 1) := by decide +kernel
theorem dX3_add_63 : decode cX3_add 63 = .ok (.aload_n 0, 1) := by decide +kernel
theorem dX3_add_64 : decode cX3_add 64 = .ok (.getfield 44, 3) := by decide +kernel
theorem dX3_add_67 : decode cX3_add 67 = .ok (.imul, 1) := by decide +kernel
theorem dX3_add_68 : decode cX3_add 68 = .ok (.iconst 2, 1) := by decide +kernel
theorem dX3_add_69 : decode cX3_add 69 = .ok (.iadd, 1) := by decide +kernel
theorem dX3_add_70 : decode cX3_add 70 = .ok (.iload 6, 2) := by decide +kernel
theorem dX3_add_72 : decode cX3_add 72 = .ok (.iastore, 1) := by decide +kernel
theorem dX3_add_73 : decode cX3_add 73 = .ok (.aload_n 0, 1) := by decide +kernel
theorem dX3_add_74 : decode cX3_add 74 = .ok (.dup, 1) := by decide +kernel
theorem dX3_add_75 : decode cX3_add 75 = .ok (.getfield 44, 3) := by decide +kernel
theorem dX3_add_78 : decode cX3_add 78 = .ok (.iconst 1, 1) := by decide +kernel
theorem dX3_add_79 : decode cX3_add 79 = .ok (.iadd, 1) := by decide +kernel
theorem dX3_add_80 : decode cX3_add 80 = .ok (.putfield 44, 3) := by decide +kernel
theorem dX3_add_83 : decode cX3_add 83 = .ok (.aload_n 0, 1) := by decide +kernel
theorem dX3_add_84 : decode cX3_add 84 = .ok (.getfield 44, 3) := by decide +kernel
theorem dX3_add_87 : decode cX3_add 87 = .ok (.iconst 1, 1) := by decide +kernel
theorem dX3_add_88 : decode cX3_add 88 = .ok (.isub, 1) := by decide +kernel
theorem dX3_add_89 : decode cX3_add 89 = .ok (.ireturn, 1) := by decide +kernel
set_option maxRecDepth 20000 in
theorem ggX3_fill_X3_comes : GoodIn wsX3_fill wsX3_comes := goodIn_ca (goodIn_r _ [8, 9, 2, 3, 10, 11, 12, 13, 7, 14, 15, 16, 17, 18, 19, 20, 21, 22, 23, 24] (by decide +kernel) (by decide +kernel)) (goodIn_sub (fun _ h => List.mem_cons_of_mem _ (List.mem_append_right _ h)) (by decide +kernel))
set_option maxRecDepth 20000 in
theorem gX3_fill_X3_comes : GoodIn wsX3_fill (wsV RX3 51 RX3 yX3_comes wsX3_comes) := goodIn_app (goodIn_of _ (by decide +kernel)) ggX3_fill_X3_comes
theorem dX3_fill_0 : decode cX3_fill 0 = .ok (.bipush 8, 2) := by decide +kernel
theorem dX3_fill_2 : decode cX3_fill 2 = .ok (.istore_n 1, 1) := by decide +kernel
theorem dX3_fill_3 : decode cX3_fill 3 = .ok (.iload_n 1, 1) := by decide +kernel
theorem dX3_fill_4 : decode cX3_fill 4 = .ok (.aload_n 0, 1) := by decide +kernel
theorem dX3_fill_5 : decode cX3_fill 5 = .ok (.getfield 44, 3) := by decide +kernel
theorem dX3_fill_8 : decode cX3_fill 8 = .ok (.if_icmp .ge 57, 3) := by decide +kernel
theorem dX3_fill_11 : decode cX3_fill 11 = .ok (.bipush 8, 2) := by decide +kernel
theorem dX3_fill_13 : decode cX3_fill 13 = .ok (.istore_n 2, 1) := by decide +kernel
theorem dX3_fill_14 : decode cX3_fill 14 = .ok (.iload_n 2, 1) := by decide +kernel
theorem dX3_fill_15 : decode cX3_fill 15 = .ok (.aload_n 0, 1) := by decide +kernel
theorem dX3_fill_16 : decode cX3_fill 16 = .ok (.getfield 44, 3) := by decide +kernel
theorem dX3_fill_19 : decode cX3_fill 19 = .ok (.if_icmp .ge 40, 3) := by decide +kernel
theorem dX3_fill_22 : decode cX3_fill 22 = .ok (.aload_n 0, 1) := by decide +kernel
theorem dX3_fill_23 : decode cX3_fill 23 = .ok (.getfield 23, 3) := by decide +kernel
theorem dX3_fill_26 : decode cX3_fill 26 = .ok (.bipush 40, 2) := by decide +kernel
theorem dX3_fill_28 : decode cX3_fill 28 = .ok (.iload_n 1, 1) := by decide +kernel
theorem dX3_fill_29 : decode cX3_fill 29 = .ok (.imul, 1) := by decide +kernel
theorem dX3_fill_30 : decode cX3_fill 30 = .ok (.iload_n 2, 1) := by decide +kernel
theorem dX3_fill_31 : decode cX3_fill 31 = .ok (.iadd, 1) := by decide +kernel
theorem dX3_fill_32 : decode cX3_fill 32 = .ok (.iload_n 1, 1) := by decide +kernel
theorem dX3_fill_33 : decode cX3_fill 33 = .ok (.iload_n 2, 1) := by decide +kernel
theorem dX3_fill_34 : decode cX3_fill 34 = .ok (.if_icmp .eq 13, 3) := by decide +kernel
theorem dX3_fill_37 : decode cX3_fill 37 = .ok (.aload_n 0, 1) := by decide +kernel
theorem dX3_fill_38 : decode cX3_fill 38 = .ok (.getfield 7, 3) := by decide +kernel
theorem dX3_fill_41 : decode cX3_fill 41 = .ok (.iload_n 1, 1) := by decide +kernel
theorem dX3_fill_42 : decode cX3_fill 42 = .ok (.iaload, 1) := by decide +kernel
theorem dX3_fill_43 : decode cX3_fill 43 = .ok (.iconst 4, 1) := by decide +kernel
theorem dX3_fill_44 : decode cX3_fill 44 = .ok (.if_icmp .ne 7, 3) := by decide +kernel
theorem dX3_fill_47 : decode cX3_fill 47 = .ok (.iconst 1, 1) := by decide +kernel
theorem dX3_fill_48 : decode cX3_fill 48 = .ok (.goto 4, 3) := by decide +kernel
theorem dX3_fill_51 : decode cX3_fill 51 = .ok (.iconst 0, 1) := by decide +kernel
theorem dX3_fill_52 : decode cX3_fill 52 = .ok (.bastore, 1) := by decide +kernel
theorem dX3_fill_53 : decode cX3_fill 53 = .ok (.iinc 2 1, 3) := by decide +kernel
theorem dX3_fill_56 : decode cX3_fill 56 = .ok (.goto (-42), 3) := by decide +kernel
theorem dX3_fill_59 : decode cX3_fill 59 = .ok (.iinc 1 1, 3) := by decide +kernel
theorem dX3_fill_62 : decode cX3_fill 62 = .ok (.goto (-59), 3) := by decide +kernel
theorem dX3_fill_65 : decode cX3_fill 65 = .ok (.iconst 1, 1) := by decide +kernel
theorem dX3_fill_66 : decode cX3_fill 66 = .ok (.istore_n 1, 1) := by decide +kernel
theorem dX3_fill_67 : decode cX3_fill 67 = .ok (.iload_n 1, 1) := by decide +kernel
theorem dX3_fill_68 : decode cX3_fill 68 = .ok (.ifCond .eq 79, 3) := by decide +kernel
theorem dX3_fill_71 : decode cX3_fill 71 = .ok (.iconst 0, 1) := by decide +kernel
theorem dX3_fill_72 : decode cX3_fill 72 = .ok (.istore_n 1, 1) := by decide +kernel
theorem dX3_fill_73 : decode cX3_fill 73 = .ok (.bipush 8, 2) := by decide +kernel
theorem dX3_fill_75 : decode cX3_fill 75 = .ok (.istore_n 2, 1) := by decide +kernel
theorem dX3_fill_76 : decode cX3_fill 76 = .ok (.iload_n 2, 1) := by decide +kernel
theorem dX3_fill_77 : decode cX3_fill 77 = .ok (.aload_n 0, 1) := by decide +kernel
theorem dX3_fill_78 : decode cX3_fill 78 = .ok (.getfield 44, 3) := by decide +kernel
theorem dX3_fill_81 : decode cX3_fill 81 = .ok (.if_icmp .ge 63, 3) := by decide +kernel
theorem dX3_fill_84 : decode cX3_fill 84 = .ok (.bipush 8, 2) := by decide +kernel
theorem dX3_fill_86 : decode cX3_fill 86 = .ok (.istore_n 3, 1) := by decide +kernel
theorem dX3_fill_87 : decode cX3_fill 87 = .ok (.iload_n 3, 1) := by decide +kernel
theorem dX3_fill_88 : decode cX3_fill 88 = .ok (.aload_n 0, 1) := by decide +kernel
theorem dX3_fill_89 : decode cX3_fill 89 = .ok (.getfield 44, 3) := by decide +kernel
theorem dX3_fill_92 : decode cX3_fill 92 = .ok (.if_icmp .ge 46, 3) := by decide +kernel
theorem dX3_fill_95 : decode cX3_fill 95 = .ok (.aload_n 0, 1) := by decide +kernel
theorem dX3_fill_96 : decode cX3_fill 96 = .ok (.getfield 23, 3) := by decide +kernel
theorem dX3_fill_99 : decode cX3_fill 99 = .ok (.bipush 40, 2) := by decide +kernel
theorem dX3_fill_101 : decode cX3_fill 101 = .ok (.iload_n 2, 1) := by decide +kernel
theorem dX3_fill_102 : decode cX3_fill 102 = .ok (.imul, 1) := by decide +kernel
theorem dX3_fill_103 : decode cX3_fill 103 = .ok (.iload_n 3, 1) := by decide +kernel
theorem dX3_fill_104 : decode cX3_fill 104 = .ok (.iadd, 1) := by decide +kernel
theorem dX3_fill_105 : decode cX3_fill 105 = .ok (.baload, 1) := by decide +kernel
theorem dX3_fill_106 : decode cX3_fill 106 = .ok (.ifCond .ne 26, 3) := by decide +kernel
theorem dX3_fill_109 : decode cX3_fill 109 = .ok (.aload_n 0, 1) := by decide +kernel
theorem dX3_fill_110 : decode cX3_fill 110 = .ok (.iload_n 2, 1) := by decide +kernel
theorem dX3_fill_111 : decode cX3_fill 111 = .ok (.iload_n 3, 1) := by decide +kernel
theorem dX3_fill_112 : decode cX3_fill 112 = .ok (.invokevirtual 51, 3) := by decide +kernel
theorem dX3_fill_115 : decode cX3_fill 115 = .ok (.ifCond .eq 17, 3) := by decide +kernel
theorem dX3_fill_118 : decode cX3_fill 118 = .ok (.aload_n 0, 1) := by decide +kernel
theorem dX3_fill_119 : decode cX3_fill 119 = .ok (.getfield 23, 3) := by decide +kernel
theorem dX3_fill_122 : decode cX3_fill 122 = .ok (.bipush 40, 2) := by decide +kernel
theorem dX3_fill_124 : decode cX3_fill 124 = .ok (.iload_n 2, 1) := by decide +kernel
theorem dX3_fill_125 : decode cX3_fill 125 = .ok (.imul, 1) := by decide +kernel
theorem dX3_fill_126 : decode cX3_fill 126 = .ok (.iload_n 3, 1) := by decide +kernel
theorem dX3_fill_127 : decode cX3_fill 127 = .ok (.iadd, 1) := by decide +kernel
theorem dX3_fill_128 : decode cX3_fill 128 = .ok (.iconst 1, 1) := by decide +kernel
theorem dX3_fill_129 : decode cX3_fill 129 = .ok (.bastore, 1) := by decide +kernel
theorem dX3_fill_130 : decode cX3_fill 130 = .ok (.iconst 1, 1) := by decide +kernel
theorem dX3_fill_131 : decode cX3_fill 131 = .ok (.istore_n 1, 1) := by decide +kernel
theorem dX3_fill_132 : decode cX3_fill 132 = .ok (.iinc 3 1, 3) := by decide +kernel
theorem dX3_fill_135 : decode cX3_fill 135 = .ok (.goto (-48), 3) := by decide +kernel
theorem dX3_fill_138 : decode cX3_fill 138 = .ok (.iinc 2 1, 3) := by decide +kernel
theorem dX3_fill_141 : decode cX3_fill 141 = .ok (.goto (-65), 3) := by decide +kernel
theorem dX3_fill_144 : decode cX3_fill 144 = .ok (.goto (-77), 3) := by decide +kernel
theorem dX3_fill_147 : decode cX3_fill 147 = .ok (.return_, 1) := by decide +kernel
set_option maxRecDepth 20000 in
theorem ggX3_comes_X3_isReference : GoodIn wsX3_comes wsX3_isReference := goodIn_r _ [9] (by decide +kernel) (by decide +kernel)
set_option maxRecDepth 20000 in
theorem gX3_comes_X3_isReference : GoodIn wsX3_comes (wsV RX3 55 RX3 yX3_isReference wsX3_isReference) := goodIn_app (goodIn_of _ (by decide +kernel)) ggX3_comes_X3_isReference
theorem dX3_comes_0 : decode cX3_comes 0 = .ok (.iconst 0, 1) := by decide +kernel
theorem dX3_comes_1 : decode cX3_comes 1 = .ok (.istore_n 3, 1) := by decide +kernel
theorem dX3_comes_2 : decode cX3_comes 2 = .ok (.iload_n 3, 1) := by decide +kernel
theorem dX3_comes_3 : decode cX3_comes 3 = .ok (.iconst 3, 1) := by decide +kernel
theorem dX3_comes_4 : decode cX3_comes 4 = .ok (.if_icmp .ge 43, 3) := by decide +kernel
theorem dX3_comes_7 : decode cX3_comes 7 = .ok (.aload_n 0, 1) := by decide +kernel
theorem dX3_comes_8 : decode cX3_comes 8 = .ok (.getfield 20, 3) := by decide +kernel
theorem dX3_comes_11 : decode cX3_comes 11 = .ok (.iconst 3, 1) := by decide +kernel
theorem dX3_comes_12 : decode cX3_comes 12 = .ok (.iload_n 1, 1) := by decide +kernel
theorem dX3_comes_13 : decode cX3_comes 13 = .ok (.imul, 1) := by decide +kernel
theorem dX3_comes_14 : decode cX3_comes 14 = .ok (.iload_n 3, 1) := by decide +kernel
theorem dX3_comes_15 : decode cX3_comes 15 = .ok (.iadd, 1) := by decide +kernel
theorem dX3_comes_16 : decode cX3_comes 16 = .ok (.iaload, 1) := by decide +kernel
theorem dX3_comes_17 : decode cX3_comes 17 = .ok (.istore 4, 2) := by decide +kernel
theorem dX3_comes_19 : decode cX3_comes 19 = .ok (.iload 4, 2) := by decide +kernel
theorem dX3_comes_21 : decode cX3_comes 21 = .ok (.ifCond .lt 20, 3) := by decide +kernel
theorem dX3_comes_24 : decode cX3_comes 24 = .ok (.aload_n 0, 1) := by decide +kernel
theorem dX3_comes_25 : decode cX3_comes 25 = .ok (.getfield 23, 3) := by decide +kernel
theorem dX3_comes_28 : decode cX3_comes 28 = .ok (.bipush 40, 2) := by decide +kernel
theorem dX3_comes_30 : decode cX3_comes 30 = .ok (.iload 4, 2) := by decide +kernel
theorem dX3_comes_32 : decode cX3_comes 32 = .ok (.imul, 1) := by decide +kernel
theorem dX3_comes_33 : decode cX3_comes 33 = .ok (.iload_n 2, 1) := by decide +kernel
theorem dX3_comes_34 : decode cX3_comes 34 = .ok (.iadd, 1) := by decide +kernel
theorem dX3_comes_35 : decode cX3_comes 35 = .ok (.baload, 1) := by decide +kernel
theorem dX3_comes_36 : decode cX3_comes 36 = .ok (.ifCond .eq 5, 3) := by decide +kernel
theorem dX3_comes_39 : decode cX3_comes 39 = .ok (.iconst 1, 1) := by decide +kernel
theorem dX3_comes_40 : decode cX3_comes 40 = .ok (.ireturn, 1) := by decide +kernel
theorem dX3_comes_41 : decode cX3_comes 41 = .ok (.iinc 3 1, 3) := by decide +kernel
theorem dX3_comes_44 : decode cX3_comes 44 = .ok (.goto (-42), 3) := by decide +kernel
theorem dX3_comes_47 : decode cX3_comes 47 = .ok (.aload_n 0, 1) := by decide +kernel
theorem dX3_comes_48 : decode cX3_comes 48 = .ok (.getfield 7, 3) := by decide +kernel
theorem dX3_comes_51 : decode cX3_comes 51 = .ok (.iload_n 1, 1) := by decide +kernel
theorem dX3_comes_52 : decode cX3_comes 52 = .ok (.iaload, 1) := by decide +kernel
theorem dX3_comes_53 : decode cX3_comes 53 = .ok (.iconst 3, 1) := by decide +kernel
theorem dX3_comes_54 : decode cX3_comes 54 = .ok (.if_icmp .ne 13, 3) := by decide +kernel
theorem dX3_comes_57 : decode cX3_comes 57 = .ok (.aload_n 0, 1) := by decide +kernel
theorem dX3_comes_58 : decode cX3_comes 58 = .ok (.getfield 7, 3) := by decide +kernel
theorem dX3_comes_61 : decode cX3_comes 61 = .ok (.iload_n 2, 1) := by decide +kernel
theorem dX3_comes_62 : decode cX3_comes 62 = .ok (.iaload, 1) := by decide +kernel
theorem dX3_comes_63 : decode cX3_comes 63 = .ok (.iconst 3, 1) := by decide +kernel
theorem dX3_comes_64 : decode cX3_comes 64 = .ok (.if_icmp .eq 5, 3) := by decide +kernel
theorem dX3_comes_67 : decode cX3_comes 67 = .ok (.iconst 0, 1) := by decide +kernel
theorem dX3_comes_68 : decode cX3_comes 68 = .ok (.ireturn, 1) := by decide +kernel
theorem dX3_comes_69 : decode cX3_comes 69 = .ok (.aload_n 0, 1) := by decide +kernel
theorem dX3_comes_70 : decode cX3_comes 70 = .ok (.getfield 17, 3) := by decide +kernel
theorem dX3_comes_73 : decode cX3_comes 73 = .ok (.iload_n 1, 1) := by decide +kernel
theorem dX3_comes_74 : decode cX3_comes 74 = .ok (.iaload, 1) := by decide +kernel
theorem dX3_comes_75 : decode cX3_comes 75 = .ok (.istore_n 3, 1) := by decide +kernel
theorem dX3_comes_76 : decode cX3_comes 76 = .ok (.aload_n 0, 1) := by decide +kernel
theorem dX3_comes_77 : decode cX3_comes 77 = .ok (.getfield 17, 3) := by decide +kernel
theorem dX3_comes_80 : decode cX3_comes 80 = .ok (.iload_n 2, 1) := by decide +kernel
theorem dX3_comes_81 : decode cX3_comes 81 = .ok (.iaload, 1) := by decide +kernel
theorem dX3_comes_82 : decode cX3_comes 82 = .ok (.istore 4, 2) := by decide +kernel
theorem dX3_comes_84 : decode cX3_comes 84 = .ok (.iload_n 3, 1) := by decide +kernel
theorem dX3_comes_85 : decode cX3_comes 85 = .ok (.iload 4, 2) := by decide +kernel
theorem dX3_comes_87 : decode cX3_comes 87 = .ok (.if_icmp .eq 35, 3) := by decide +kernel
theorem dX3_comes_90 : decode cX3_comes 90 = .ok (.aload_n 0, 1) := by decide +kernel
theorem dX3_comes_91 : decode cX3_comes 91 = .ok (.iload_n 3, 1) := by decide +kernel
theorem dX3_comes_92 : decode cX3_comes 92 = .ok (.invokevirtual 55, 3) := by decide +kernel
theorem dX3_comes_95 : decode cX3_comes 95 = .ok (.ifCond .eq 31, 3) := by decide +kernel
theorem dX3_comes_98 : decode cX3_comes 98 = .ok (.aload_n 0, 1) := by decide +kernel
theorem dX3_comes_99 : decode cX3_comes 99 = .ok (.iload 4, 2) := by decide +kernel
theorem dX3_comes_101 : decode cX3_comes 101 = .ok (.invokevirtual 55, 3) := by decide +kernel
theorem dX3_comes_104 : decode cX3_comes 104 = .ok (.ifCond .eq 22, 3) := by decide +kernel
theorem dX3_comes_107 : decode cX3_comes 107 = .ok (.aload_n 0, 1) := by decide +kernel
theorem dX3_comes_108 : decode cX3_comes 108 = .ok (.getfield 23, 3) := by decide +kernel
theorem dX3_comes_111 : decode cX3_comes 111 = .ok (.bipush 40, 2) := by decide +kernel
theorem dX3_comes_113 : decode cX3_comes 113 = .ok (.iload_n 3, 1) := by decide +kernel
theorem dX3_comes_114 : decode cX3_comes 114 = .ok (.imul, 1) := by decide +kernel
theorem dX3_comes_115 : decode cX3_comes 115 = .ok (.iload 4, 2) := by decide +kernel
theorem dX3_comes_117 : decode cX3_comes 117 = .ok (.iadd, 1) := by decide +kernel
theorem dX3_comes_118 : decode cX3_comes 118 = .ok (.baload, 1) := by decide +kernel
theorem dX3_comes_119 : decode cX3_comes 119 = .ok (.ifCond .eq 7, 3) := by decide +kernel
theorem dX3_comes_122 : decode cX3_comes 122 = .ok (.iconst 1, 1) := by decide +kernel
theorem dX3_comes_123 : decode cX3_comes 123 = .ok (.goto 4, 3) := by decide +kernel
theorem dX3_comes_126 : decode cX3_comes 126 = .ok (.iconst 0, 1) := by decide +kernel
theorem dX3_comes_127 : decode cX3_comes 127 = .ok (.ireturn, 1) := by decide +kernel
theorem dX3_isFace_0 : decode cX3_isFace 0 = .ok (.aload_n 0, 1) := by decide +kernel
theorem dX3_isFace_1 : decode cX3_isFace 1 = .ok (.getfield 7, 3) := by decide +kernel
theorem dX3_isFace_4 : decode cX3_isFace 4 = .ok (.iload_n 1, 1) := by decide +kernel
theorem dX3_isFace_5 : decode cX3_isFace 5 = .ok (.iaload, 1) := by decide +kernel
theorem dX3_isFace_6 : decode cX3_isFace 6 = .ok (.iconst 2, 1) := by decide +kernel
theorem dX3_isFace_7 : decode cX3_isFace 7 = .ok (.if_icmp .ne 7, 3) := by decide +kernel
theorem dX3_isFace_10 : decode cX3_isFace 10 = .ok (.iconst 1, 1) := by decide +kernel
theorem dX3_isFace_11 : decode cX3_isFace 11 = .ok (.goto 4, 3) := by decide +kernel
theorem dX3_isFace_14 : decode cX3_isFace 14 = .ok (.iconst 0, 1) := by decide +kernel
theorem dX3_isFace_15 : decode cX3_isFace 15 = .ok (.ireturn, 1) := by decide +kernel
set_option maxRecDepth 20000 in
theorem ggX3_newClass_X3_isType : GoodIn wsX3_newClass wsX3_isType := goodIn_r _ [9, 4, 10, 11, 8, 12, 36, 37, 38, 39, 40, 41, 42, 43, 44, 45] (by decide +kernel) (by decide +kernel)
set_option maxRecDepth 20000 in
theorem gX3_newClass_X3_isType : GoodIn wsX3_newClass (wsV RX3 59 RX3 yX3_isType wsX3_isType) := goodIn_app (goodIn_of _ (by decide +kernel)) ggX3_newClass_X3_isType
set_option maxRecDepth 20000 in
theorem ggX3_newClass_X3_isFace : GoodIn wsX3_newClass wsX3_isFace := goodIn_ca (goodIn_r _ [16, 2, 36, 37, 38, 39, 40, 41, 42, 43, 44, 45] (by decide +kernel) (by decide +kernel)) (goodIn_sub (fun _ h => List.mem_cons_of_mem _ (List.mem_append_right _ h)) (by decide +kernel))
end
section
set_option maxRecDepth 20000 in
theorem gX3_newClass_X3_isFace : GoodIn wsX3_newClass (wsV RX3 62 RX3 yX3_isFace wsX3_isFace) := goodIn_app (goodIn_of _ (by decide +kernel)) ggX3_newClass_X3_isFace
set_option maxRecDepth 20000 in
theorem ggX3_newClass_X3_add : GoodIn wsX3_newClass wsX3_add := goodIn_ca (goodIn_r _ [20, 2, 4, 3, 21, 22, 36, 37, 38, 39, 40, 41, 42, 43, 44, 45] (by decide +kernel) (by decide +kernel)) (goodIn_sub (fun _ h => List.mem_cons_of_mem _ (List.mem_append_right _ h)) (by decide +kernel))
set_option maxRecDepth 20000 in
theorem gX3_newClass_X3_add : GoodIn wsX3_newClass (wsV RX3 33 RX3 yX3_add wsX3_add) := goodIn_app (goodIn_of _ (by decide +kernel)) ggX3_newClass_X3_add
set_option maxRecDepth 20000 in
theorem ggX3_newClass_X3_fill : GoodIn wsX3_newClass wsX3_fill := goodIn_ca (goodIn_r _ [26, 4, 27, 2, 28, 29, 30, 8, 31, 22, 21, 32, 33, 34, 35, 36, 37, 38, 39, 40, 41, 42, 43, 44, 45] (by decide +kernel) (by decide +kernel)) (goodIn_sub (fun _ h => List.mem_cons_of_mem _ (List.mem_append_right _ h)) (by decide +kernel))
set_option maxRecDepth 20000 in
theorem gX3_newClass_X3_fill : GoodIn wsX3_newClass (wsV RX3 37 RX3 yX3_fill wsX3_fill) := goodIn_app (goodIn_of _ (by decide +kernel)) ggX3_newClass_X3_fill
theorem dX3_newClass_0 : decode cX3_newClass 0 = .ok (.aload_n 0, 1) := by decide +kernel
theorem dX3_newClass_1 : decode cX3_newClass 1 = .ok (.iconst 0, 1) := by decide +kernel
theorem dX3_newClass_2 : decode cX3_newClass 2 = .ok (.putfield 40, 3) := by decide +kernel
theorem dX3_newClass_5 : decode cX3_newClass 5 = .ok (.iload_n 1, 1) := by decide +kernel
theorem dX3_newClass_6 : decode cX3_newClass 6 = .ok (.iconst (-1), 1) := by decide +kernel
theorem dX3_newClass_7 : decode cX3_newClass 7 = .ok (.if_icmp .eq 11, 3) := by decide +kernel
theorem dX3_newClass_10 : decode cX3_newClass 10 = .ok (.aload_n 0, 1) := by decide +kernel
theorem dX3_newClass_11 : decode cX3_newClass 11 = .ok (.iload_n 1, 1) := by decide +kernel
theorem dX3_newClass_12 : decode cX3_newClass 12 = .ok (.invokevirtual 59, 3) := by decide +kernel
theorem dX3_newClass_15 : decode cX3_newClass 15 = .ok (.ifCond .eq 16, 3) := by decide +kernel
theorem dX3_newClass_18 : decode cX3_newClass 18 = .ok (.iload_n 2, 1) := by decide +kernel
theorem dX3_newClass_19 : decode cX3_newClass 19 = .ok (.iconst (-1), 1) := by decide +kernel
theorem dX3_newClass_20 : decode cX3_newClass 20 = .ok (.if_icmp .eq 13, 3) := by decide +kernel
theorem dX3_newClass_23 : decode cX3_newClass 23 = .ok (.aload_n 0, 1) := by decide +kernel
theorem dX3_newClass_24 : decode cX3_newClass 24 = .ok (.iload_n 2, 1) := by decide +kernel
theorem dX3_newClass_25 : decode cX3_newClass 25 = .ok (.invokevirtual 59, 3) := by decide +kernel
theorem dX3_newClass_28 : decode cX3_newClass 28 = .ok (.ifCond .ne 5, 3) := by decide +kernel
theorem dX3_newClass_31 : decode cX3_newClass 31 = .ok (.iconst (-1), 1) := by decide +kernel
theorem dX3_newClass_32 : decode cX3_newClass 32 = .ok (.ireturn, 1) := by decide +kernel
theorem dX3_newClass_33 : decode cX3_newClass 33 = .ok (.iload_n 1, 1) := by decide +kernel
theorem dX3_newClass_34 : decode cX3_newClass 34 = .ok (.ifCond .lt 28, 3) := by decide +kernel
theorem dX3_newClass_37 : decode cX3_newClass 37 = .ok (.aload_n 0, 1) := by decide +kernel
theorem dX3_newClass_38 : decode cX3_newClass 38 = .ok (.getfield 7, 3) := by decide +kernel
theorem dX3_newClass_41 : decode cX3_newClass 41 = .ok (.iload_n 1, 1) := by decide +kernel
theorem dX3_newClass_42 : decode cX3_newClass 42 = .ok (.iaload, 1) := by decide +kernel
theorem dX3_newClass_43 : decode cX3_newClass 43 = .ok (.iconst 1, 1) := by decide +kernel
theorem dX3_newClass_44 : decode cX3_newClass 44 = .ok (.if_icmp .ne 30, 3) := by decide +kernel
theorem dX3_newClass_47 : decode cX3_newClass 47 = .ok (.aload_n 0, 1) := by decide +kernel
theorem dX3_newClass_48 : decode cX3_newClass 48 = .ok (.getfield 13, 3) := by decide +kernel
theorem dX3_newClass_51 : decode cX3_newClass 51 = .ok (.iload_n 1, 1) := by decide +kernel
theorem dX3_newClass_52 : decode cX3_newClass 52 = .ok (.baload, 1) := by decide +kernel
theorem dX3_newClass_53 : decode cX3_newClass 53 = .ok (.ifCond .ne 21, 3) := by decide +kernel
theorem dX3_newClass_56 : decode cX3_newClass 56 = .ok (.iload_n 1, 1) := by decide +kernel
theorem dX3_newClass_57 : decode cX3_newClass 57 = .ok (.bipush 17, 2) := by decide +kernel
theorem dX3_newClass_59 : decode cX3_newClass 59 = .ok (.if_icmp .eq 15, 3) := by decide +kernel
theorem dX3_newClass_62 : decode cX3_newClass 62 = .ok (.iload_n 2, 1) := by decide +kernel
theorem dX3_newClass_63 : decode cX3_newClass 63 = .ok (.ifCond .lt 14, 3) := by decide +kernel
theorem dX3_newClass_66 : decode cX3_newClass 66 = .ok (.aload_n 0, 1) := by decide +kernel
theorem dX3_newClass_67 : decode cX3_newClass 67 = .ok (.iload_n 2, 1) := by decide +kernel
theorem dX3_newClass_68 : decode cX3_newClass 68 = .ok (.invokevirtual 62, 3) := by decide +kernel
theorem dX3_newClass_71 : decode cX3_newClass 71 = .ok (.ifCond .ne 6, 3) := by decide +kernel
theorem dX3_newClass_74 : decode cX3_newClass 74 = .ok (.bipush (-2), 2) := by decide +kernel
theorem dX3_newClass_76 : decode cX3_newClass 76 = .ok (.ireturn, 1) := by decide +kernel
theorem dX3_newClass_77 : decode cX3_newClass 77 = .ok (.aload_n 0, 1) := by decide +kernel
theorem dX3_newClass_78 : decode cX3_newClass 78 = .ok (.getfield 44, 3) := by decide +kernel
theorem dX3_newClass_81 : decode cX3_newClass 81 = .ok (.bipush 40, 2) := by decide +kernel
theorem dX3_newClass_83 : decode cX3_newClass 83 = .ok (.if_icmp .ne 6, 3) := by decide +kernel
theorem dX3_newClass_86 : decode cX3_newClass 86 = .ok (.bipush (-3), 2) := by decide +kernel
theorem dX3_newClass_88 : decode cX3_newClass 88 = .ok (.ireturn, 1) := by decide +kernel
theorem dX3_newClass_89 : decode cX3_newClass 89 = .ok (.aload_n 0, 1) := by decide +kernel
theorem dX3_newClass_90 : decode cX3_newClass 90 = .ok (.iconst 1, 1) := by decide +kernel
theorem dX3_newClass_91 : decode cX3_newClass 91 = .ok (.iload_n 3, 1) := by decide +kernel
theorem dX3_newClass_92 : decode cX3_newClass 92 = .ok (.bipush (-2), 2) := by decide +kernel
theorem dX3_newClass_94 : decode cX3_newClass 94 = .ok (.iload_n 1, 1) := by decide +kernel
theorem dX3_newClass_95 : decode cX3_newClass 95 = .ok (.ifCond .ge 8, 3) := by decide +kernel
theorem dX3_newClass_98 : decode cX3_newClass 98 = .ok (.bipush 16, 2) := by decide +kernel
theorem dX3_newClass_100 : decode cX3_newClass 100 = .ok (.goto 4, 3) := by decide +kernel
theorem dX3_newClass_103 : decode cX3_newClass 103 = .ok (.iload_n 1, 1) := by decide +kernel
theorem dX3_newClass_104 : decode cX3_newClass 104 = .ok (.iload_n 2, 1) := by decide +kernel
theorem dX3_newClass_105 : decode cX3_newClass 105 = .ok (.iconst (-1), 1) := by decide +kernel
theorem dX3_newClass_106 : decode cX3_newClass 106 = .ok (.invokevirtual 33, 3) := by decide +kernel
theorem dX3_newClass_109 : decode cX3_newClass 109 = .ok (.istore 4, 2) := by decide +kernel
theorem dX3_newClass_111 : decode cX3_newClass 111 = .ok (.aload_n 0, 1) := by decide +kernel
theorem dX3_newClass_112 : decode cX3_newClass 112 = .ok (.invokevirtual 37, 3) := by decide +kernel
theorem dX3_newClass_115 : decode cX3_newClass 115 = .ok (.iload 4, 2) := by decide +kernel
theorem dX3_newClass_117 : decode cX3_newClass 117 = .ok (.ireturn, 1) := by decide +kernel
set_option maxRecDepth 20000 in
theorem ggX3_newInterface_X3_isType : GoodIn wsX3_newInterface wsX3_isType := goodIn_r _ [7, 2, 8, 9, 6, 10, 36, 37, 38, 39, 40, 41, 42, 43, 44, 45] (by decide +kernel) (by decide +kernel)
set_option maxRecDepth 20000 in
theorem gX3_newInterface_X3_isType : GoodIn wsX3_newInterface (wsV RX3 59 RX3 yX3_isType wsX3_isType) := goodIn_app (goodIn_of _ (by decide +kernel)) ggX3_newInterface_X3_isType
set_option maxRecDepth 20000 in
theorem ggX3_newInterface_X3_isFace : GoodIn wsX3_newInterface wsX3_isFace := goodIn_ca (goodIn_r _ [14, 15, 36, 37, 38, 39, 40, 41, 42, 43, 44, 45] (by decide +kernel) (by decide +kernel)) (goodIn_sub (fun _ h => List.mem_cons_of_mem _ (List.mem_append_right _ h)) (by decide +kernel))
set_option maxRecDepth 20000 in
theorem gX3_newInterface_X3_isFace : GoodIn wsX3_newInterface (wsV RX3 62 RX3 yX3_isFace wsX3_isFace) := goodIn_app (goodIn_of _ (by decide +kernel)) ggX3_newInterface_X3_isFace
set_option maxRecDepth 20000 in
theorem ggX3_newInterface_X3_add : GoodIn wsX3_newInterface wsX3_add := goodIn_ca (goodIn_r _ [19, 15, 2, 20, 21, 22, 36, 37, 38, 39, 40, 41, 42, 43, 44, 45] (by decide +kernel) (by decide +kernel)) (goodIn_sub (fun _ h => List.mem_cons_of_mem _ (List.mem_append_right _ h)) (by decide +kernel))
set_option maxRecDepth 20000 in
theorem gX3_newInterface_X3_add : GoodIn wsX3_newInterface (wsV RX3 33 RX3 yX3_add wsX3_add) := goodIn_app (goodIn_of _ (by decide +kernel)) ggX3_newInterface_X3_add
set_option maxRecDepth 20000 in
theorem ggX3_newInterface_X3_fill : GoodIn wsX3_newInterface wsX3_fill := goodIn_ca (goodIn_r _ [26, 2, 27, 15, 28, 29, 30, 6, 31, 22, 21, 32, 33, 34, 35, 36, 37, 38, 39, 40, 41, 42, 43, 44, 45] (by decide +kernel) (by decide +kernel)) (goodIn_sub (fun _ h => List.mem_cons_of_mem _ (List.mem_append_right _ h)) (by decide +kernel))
set_option maxRecDepth 20000 in
theorem gX3_newInterface_X3_fill : GoodIn wsX3_newInterface (wsV RX3 37 RX3 yX3_fill wsX3_fill) := goodIn_app (goodIn_of _ (by decide +kernel)) ggX3_newInterface_X3_fill
theorem dX3_newInterface_0 : decode cX3_newInterface 0 = .ok (.aload_n 0, 1) := by decide +kernel
theorem dX3_newInterface_1 : decode cX3_newInterface 1 = .ok (.iconst 0, 1) := by decide +kernel
theorem dX3_newInterface_2 : decode cX3_newInterface 2 = .ok (.putfield 40, 3) := by decide +kernel
theorem dX3_newInterface_5 : decode cX3_newInterface 5 = .ok (.iload_n 1, 1) := by decide +kernel
theorem dX3_newInterface_6 : decode cX3_newInterface 6 = .ok (.iconst (-1), 1) := by decide +kernel
theorem dX3_newInterface_7 : decode cX3_newInterface 7 = .ok (.if_icmp .eq 11, 3) := by decide +kernel
theorem dX3_newInterface_10 : decode cX3_newInterface 10 = .ok (.aload_n 0, 1) := by decide +kernel
theorem dX3_newInterface_11 : decode cX3_newInterface 11 = .ok (.iload_n 1, 1) := by decide +kernel
theorem dX3_newInterface_12 : decode cX3_newInterface 12 = .ok (.invokevirtual 59, 3) := by decide +kernel
theorem dX3_newInterface_15 : decode cX3_newInterface 15 = .ok (.ifCond .eq 16, 3) := by decide +kernel
theorem dX3_newInterface_18 : decode cX3_newInterface 18 = .ok (.iload_n 2, 1) := by decide +kernel
theorem dX3_newInterface_19 : decode cX3_newInterface 19 = .ok (.iconst (-1), 1) := by decide +kernel
theorem dX3_newInterface_20 : decode cX3_newInterface 20 = .ok (.if_icmp .eq 13, 3) := by decide +kernel
theorem dX3_newInterface_23 : decode cX3_newInterface 23 = .ok (.aload_n 0, 1) := by decide +kernel
theorem dX3_newInterface_24 : decode cX3_newInterface 24 = .ok (.iload_n 2, 1) := by decide +kernel
theorem dX3_newInterface_25 : decode cX3_newInterface 25 = .ok (.invokevirtual 59, 3) := by decide +kernel
theorem dX3_newInterface_28 : decode cX3_newInterface 28 = .ok (.ifCond .ne 5, 3) := by decide +kernel
theorem dX3_newInterface_31 : decode cX3_newInterface 31 = .ok (.iconst (-1), 1) := by decide +kernel
theorem dX3_newInterface_32 : decode cX3_newInterface 32 = .ok (.ireturn, 1) := by decide +kernel
theorem dX3_newInterface_33 : decode cX3_newInterface 33 = .ok (.iload_n 1, 1) := by decide +kernel
theorem dX3_newInterface_34 : decode cX3_newInterface 34 = .ok (.ifCond .lt 11, 3) := by decide +kernel
theorem dX3_newInterface_37 : decode cX3_newInterface 37 = .ok (.aload_n 0, 1) := by decide +kernel
theorem dX3_newInterface_38 : decode cX3_newInterface 38 = .ok (.iload_n 1, 1) := by decide +kernel
theorem dX3_newInterface_39 : decode cX3_newInterface 39 = .ok (.invokevirtual 62, 3) := by decide +kernel
theorem dX3_newInterface_42 : decode cX3_newInterface 42 = .ok (.ifCond .eq 15, 3) := by decide +kernel
theorem dX3_newInterface_45 : decode cX3_newInterface 45 = .ok (.iload_n 2, 1) := by decide +kernel
theorem dX3_newInterface_46 : decode cX3_newInterface 46 = .ok (.ifCond .lt 14, 3) := by decide +kernel
theorem dX3_newInterface_49 : decode cX3_newInterface 49 = .ok (.aload_n 0, 1) := by decide +kernel
theorem dX3_newInterface_50 : decode cX3_newInterface 50 = .ok (.iload_n 2, 1) := by decide +kernel
theorem dX3_newInterface_51 : decode cX3_newInterface 51 = .ok (.invokevirtual 62, 3) := by decide +kernel
theorem dX3_newInterface_54 : decode cX3_newInterface 54 = .ok (.ifCond .ne 6, 3) := by decide +kernel
theorem dX3_newInterface_57 : decode cX3_newInterface 57 = .ok (.bipush (-2), 2) := by decide +kernel
theorem dX3_newInterface_59 : decode cX3_newInterface 59 = .ok (.ireturn, 1) := by decide +kernel
theorem dX3_newInterface_60 : decode cX3_newInterface 60 = .ok (.aload_n 0, 1) := by decide +kernel
theorem dX3_newInterface_61 : decode cX3_newInterface 61 = .ok (.getfield 44, 3) := by decide +kernel
theorem dX3_newInterface_64 : decode cX3_newInterface 64 = .ok (.bipush 40, 2) := by decide +kernel
theorem dX3_newInterface_66 : decode cX3_newInterface 66 = .ok (.if_icmp .ne 6, 3) := by decide +kernel
theorem dX3_newInterface_69 : decode cX3_newInterface 69 = .ok (.bipush (-3), 2) := by decide +kernel
theorem dX3_newInterface_71 : decode cX3_newInterface 71 = .ok (.ireturn, 1) := by decide +kernel
theorem dX3_newInterface_72 : decode cX3_newInterface 72 = .ok (.aload_n 0, 1) := by decide +kernel
theorem dX3_newInterface_73 : decode cX3_newInterface 73 = .ok (.iconst 2, 1) := by decide +kernel
theorem dX3_newInterface_74 : decode cX3_newInterface 74 = .ok (.iconst 0, 1) := by decide +kernel
theorem dX3_newInterface_75 : decode cX3_newInterface 75 = .ok (.bipush (-2), 2) := by decide +kernel
theorem dX3_newInterface_77 : decode cX3_newInterface 77 = .ok (.bipush 16, 2) := by decide +kernel
theorem dX3_newInterface_79 : decode cX3_newInterface 79 = .ok (.iload_n 1, 1) := by decide +kernel
theorem dX3_newInterface_80 : decode cX3_newInterface 80 = .ok (.iload_n 2, 1) := by decide +kernel
theorem dX3_newInterface_81 : decode cX3_newInterface 81 = .ok (.invokevirtual 33, 3) := by decide +kernel
theorem dX3_newInterface_84 : decode cX3_newInterface 84 = .ok (.istore_n 3, 1) := by decide +kernel
theorem dX3_newInterface_85 : decode cX3_newInterface 85 = .ok (.aload_n 0, 1) := by decide +kernel
theorem dX3_newInterface_86 : decode cX3_newInterface 86 = .ok (.invokevirtual 37, 3) := by decide +kernel
theorem dX3_newInterface_89 : decode cX3_newInterface 89 = .ok (.iload_n 3, 1) := by decide +kernel
theorem dX3_newInterface_90 : decode cX3_newInterface 90 = .ok (.ireturn, 1) := by decide +kernel
set_option maxRecDepth 20000 in
theorem ggX3_array_X3_isType : GoodIn wsX3_array wsX3_isType := goodIn_r _ [9, 3, 10, 11, 8, 12, 32, 33, 34, 35, 36, 37, 38, 39, 40, 41] (by decide +kernel) (by decide +kernel)
set_option maxRecDepth 20000 in
theorem gX3_array_X3_isType : GoodIn wsX3_array (wsV RX3 59 RX3 yX3_isType wsX3_isType) := goodIn_app (goodIn_of _ (by decide +kernel)) ggX3_array_X3_isType
set_option maxRecDepth 20000 in
theorem ggX3_array_X3_add : GoodIn wsX3_array wsX3_add := goodIn_ca (goodIn_r _ [16, 2, 3, 17, 4, 18, 32, 33, 34, 35, 36, 37, 38, 39, 40, 41] (by decide +kernel) (by decide +kernel)) (goodIn_sub (fun _ h => List.mem_cons_of_mem _ (List.mem_append_right _ h)) (by decide +kernel))
set_option maxRecDepth 20000 in
theorem gX3_array_X3_add : GoodIn wsX3_array (wsV RX3 33 RX3 yX3_add wsX3_add) := goodIn_app (goodIn_of _ (by decide +kernel)) ggX3_array_X3_add
set_option maxRecDepth 20000 in
theorem ggX3_array_X3_fill : GoodIn wsX3_array wsX3_fill := goodIn_ca (goodIn_r _ [22, 3, 23, 2, 24, 25, 26, 8, 27, 18, 4, 28, 29, 30, 31, 32, 33, 34, 35, 36, 37, 38, 39, 40, 41] (by decide +kernel) (by decide +kernel)) (goodIn_sub (fun _ h => List.mem_cons_of_mem _ (List.mem_append_right _ h)) (by decide +kernel))
set_option maxRecDepth 20000 in
theorem gX3_array_X3_fill : GoodIn wsX3_array (wsV RX3 37 RX3 yX3_fill wsX3_fill) := goodIn_app (goodIn_of _ (by decide +kernel)) ggX3_array_X3_fill
theorem dX3_array_0 : decode cX3_array 0 = .ok (.aload_n 0, 1) := by decide +kernel
theorem dX3_array_1 : decode cX3_array 1 = .ok (.iconst 0, 1) := by decide +kernel
theorem dX3_array_2 : decode cX3_array 2 = .ok (.putfield 40, 3) := by decide +kernel
theorem dX3_array_5 : decode cX3_array 5 = .ok (.aload_n 0, 1) := by decide +kernel
theorem dX3_array_6 : decode cX3_array 6 = .ok (.iload_n 1, 1) := by decide +kernel
theorem dX3_array_7 : decode cX3_array 7 = .ok (.invokevirtual 59, 3) := by decide +kernel
theorem dX3_array_10 : decode cX3_array 10 = .ok (.ifCond .ne 5, 3) := by decide +kernel
theorem dX3_array_13 : decode cX3_array 13 = .ok (.iconst (-1), 1) := by decide +kernel
theorem dX3_array_14 : decode cX3_array 14 = .ok (.ireturn, 1) := by decide +kernel
theorem dX3_array_15 : decode cX3_array 15 = .ok (.aload_n 0, 1) := by decide +kernel
theorem dX3_array_16 : decode cX3_array 16 = .ok (.getfield 7, 3) := by decide +kernel
theorem dX3_array_19 : decode cX3_array 19 = .ok (.iload_n 1, 1) := by decide +kernel
theorem dX3_array_20 : decode cX3_array 20 = .ok (.iaload, 1) := by decide +kernel
theorem dX3_array_21 : decode cX3_array 21 = .ok (.iconst 4, 1) := by decide +kernel
theorem dX3_array_22 : decode cX3_array 22 = .ok (.if_icmp .ne 6, 3) := by decide +kernel
theorem dX3_array_25 : decode cX3_array 25 = .ok (.bipush (-2), 2) := by decide +kernel
theorem dX3_array_27 : decode cX3_array 27 = .ok (.ireturn, 1) := by decide +kernel
theorem dX3_array_28 : decode cX3_array 28 = .ok (.bipush 23, 2) := by decide +kernel
theorem dX3_array_30 : decode cX3_array 30 = .ok (.istore_n 2, 1) := by decide +kernel
theorem dX3_array_31 : decode cX3_array 31 = .ok (.iload_n 2, 1) := by decide +kernel
theorem dX3_array_32 : decode cX3_array 32 = .ok (.aload_n 0, 1) := by decide +kernel
theorem dX3_array_33 : decode cX3_array 33 = .ok (.getfield 44, 3) := by decide +kernel
theorem dX3_array_36 : decode cX3_array 36 = .ok (.if_icmp .ge 31, 3) := by decide +kernel
theorem dX3_array_39 : decode cX3_array 39 = .ok (.aload_n 0, 1) := by decide +kernel
theorem dX3_array_40 : decode cX3_array 40 = .ok (.getfield 7, 3) := by decide +kernel
theorem dX3_array_43 : decode cX3_array 43 = .ok (.iload_n 2, 1) := by decide +kernel
theorem dX3_array_44 : decode cX3_array 44 = .ok (.iaload, 1) := by decide +kernel
theorem dX3_array_45 : decode cX3_array 45 = .ok (.iconst 3, 1) := by decide +kernel
theorem dX3_array_46 : decode cX3_array 46 = .ok (.if_icmp .ne 15, 3) := by decide +kernel
theorem dX3_array_49 : decode cX3_array 49 = .ok (.aload_n 0, 1) := by decide +kernel
theorem dX3_array_50 : decode cX3_array 50 = .ok (.getfield 17, 3) := by decide +kernel
theorem dX3_array_53 : decode cX3_array 53 = .ok (.iload_n 2, 1) := by decide +kernel
theorem dX3_array_54 : decode cX3_array 54 = .ok (.iaload, 1) := by decide +kernel
theorem dX3_array_55 : decode cX3_array 55 = .ok (.iload_n 1, 1) := by decide +kernel
theorem dX3_array_56 : decode cX3_array 56 = .ok (.if_icmp .ne 5, 3) := by decide +kernel
theorem dX3_array_59 : decode cX3_array 59 = .ok (.iload_n 2, 1) := by decide +kernel
theorem dX3_array_60 : decode cX3_array 60 = .ok (.ireturn, 1) := by decide +kernel
theorem dX3_array_61 : decode cX3_array 61 = .ok (.iinc 2 1, 3) := by decide +kernel
theorem dX3_array_64 : decode cX3_array 64 = .ok (.goto (-33), 3) := by decide +kernel
theorem dX3_array_67 : decode cX3_array 67 = .ok (.aload_n 0, 1) := by decide +kernel
theorem dX3_array_68 : decode cX3_array 68 = .ok (.getfield 44, 3) := by decide +kernel
theorem dX3_array_71 : decode cX3_array 71 = .ok (.bipush 40, 2) := by decide +kernel
theorem dX3_array_73 : decode cX3_array 73 = .ok (.if_icmp .ne 6, 3) := by decide +kernel
theorem dX3_array_76 : decode cX3_array 76 = .ok (.bipush (-3), 2) := by decide +kernel
theorem dX3_array_78 : decode cX3_array 78 = .ok (.ireturn, 1) := by decide +kernel
theorem dX3_array_79 : decode cX3_array 79 = .ok (.aload_n 0, 1) := by decide +kernel
theorem dX3_array_80 : decode cX3_array 80 = .ok (.iconst 3, 1) := by decide +kernel
theorem dX3_array_81 : decode cX3_array 81 = .ok (.iconst 0, 1) := by decide +kernel
theorem dX3_array_82 : decode cX3_array 82 = .ok (.iload_n 1, 1) := by decide +kernel
theorem dX3_array_83 : decode cX3_array 83 = .ok (.bipush 16, 2) := by decide +kernel
theorem dX3_array_85 : decode cX3_array 85 = .ok (.bipush 19, 2) := by decide +kernel
theorem dX3_array_87 : decode cX3_array 87 = .ok (.bipush 20, 2) := by decide +kernel
theorem dX3_array_89 : decode cX3_array 89 = .ok (.invokevirtual 33, 3) := by decide +kernel
theorem dX3_array_92 : decode cX3_array 92 = .ok (.istore_n 2, 1) := by decide +kernel
theorem dX3_array_93 : decode cX3_array 93 = .ok (.aload_n 0, 1) := by decide +kernel
theorem dX3_array_94 : decode cX3_array 94 = .ok (.invokevirtual 37, 3) := by decide +kernel
theorem dX3_array_97 : decode cX3_array 97 = .ok (.iload_n 2, 1) := by decide +kernel
theorem dX3_array_98 : decode cX3_array 98 = .ok (.ireturn, 1) := by decide +kernel
set_option maxRecDepth 20000 in
theorem ggX3_type_X3_isType : GoodIn wsX3_type wsX3_isType := goodIn_r _ [11, 5, 12, 13, 10, 14, 19, 20, 21, 22, 23, 24, 25, 26, 27, 28] (by decide +kernel) (by decide +kernel)
set_option maxRecDepth 20000 in
theorem gX3_type_X3_isType : GoodIn wsX3_type (wsV RX3 59 RX3 yX3_isType wsX3_isType) := goodIn_app (goodIn_of _ (by decide +kernel)) ggX3_type_X3_isType
set_option maxRecDepth 20000 in
theorem ggX3_type_X3_isReference : GoodIn wsX3_type wsX3_isReference := goodIn_r _ [18] (by decide +kernel) (by decide +kernel)
set_option maxRecDepth 20000 in
theorem gX3_type_X3_isReference : GoodIn wsX3_type (wsV RX3 55 RX3 yX3_isReference wsX3_isReference) := goodIn_app (goodIn_of _ (by decide +kernel)) ggX3_type_X3_isReference
theorem dX3_type_0 : decode cX3_type 0 = .ok (.aload_n 0, 1) := by decide +kernel
theorem dX3_type_1 : decode cX3_type 1 = .ok (.iconst 0, 1) := by decide +kernel
theorem dX3_type_2 : decode cX3_type 2 = .ok (.putfield 40, 3) := by decide +kernel
theorem dX3_type_5 : decode cX3_type 5 = .ok (.aload_n 0, 1) := by decide +kernel
theorem dX3_type_6 : decode cX3_type 6 = .ok (.iload_n 1, 1) := by decide +kernel
theorem dX3_type_7 : decode cX3_type 7 = .ok (.invokevirtual 59, 3) := by decide +kernel
theorem dX3_type_10 : decode cX3_type 10 = .ok (.ifCond .ne 5, 3) := by decide +kernel
theorem dX3_type_13 : decode cX3_type 13 = .ok (.iconst (-1), 1) := by decide +kernel
theorem dX3_type_14 : decode cX3_type 14 = .ok (.ireturn, 1) := by decide +kernel
theorem dX3_type_15 : decode cX3_type 15 = .ok (.iload_n 2, 1) := by decide +kernel
theorem dX3_type_16 : decode cX3_type 16 = .ok (.tableswitch 115 0 3 #[32, 39, 54, 61], 32) := by decide +kernel
theorem dX3_type_48 : decode cX3_type 48 = .ok (.aload_n 0, 1) := by decide +kernel
theorem dX3_type_49 : decode cX3_type 49 = .ok (.getfield 7, 3) := by decide +kernel
theorem dX3_type_52 : decode cX3_type 52 = .ok (.iload_n 1, 1) := by decide +kernel
theorem dX3_type_53 : decode cX3_type 53 = .ok (.iaload, 1) := by decide +kernel
theorem dX3_type_54 : decode cX3_type 54 = .ok (.ireturn, 1) := by decide +kernel
theorem dX3_type_55 : decode cX3_type 55 = .ok (.aload_n 0, 1) := by decide +kernel
theorem dX3_type_56 : decode cX3_type 56 = .ok (.getfield 13, 3) := by decide +kernel
theorem dX3_type_59 : decode cX3_type 59 = .ok (.iload_n 1, 1) := by decide +kernel
theorem dX3_type_60 : decode cX3_type 60 = .ok (.baload, 1) := by decide +kernel
theorem dX3_type_61 : decode cX3_type 61 = .ok (.ifCond .eq 7, 3) := by decide +kernel
theorem dX3_type_64 : decode cX3_type 64 = .ok (.iconst 1, 1) := by decide +kernel
theorem dX3_type_65 : decode cX3_type 65 = .ok (.goto 4, 3) := by decide +kernel
theorem dX3_type_68 : decode cX3_type 68 = .ok (.iconst 0, 1) := by decide +kernel
theorem dX3_type_69 : decode cX3_type 69 = .ok (.ireturn, 1) := by decide +kernel
theorem dX3_type_70 : decode cX3_type 70 = .ok (.aload_n 0, 1) := by decide +kernel
theorem dX3_type_71 : decode cX3_type 71 = .ok (.getfield 17, 3) := by decide +kernel
theorem dX3_type_74 : decode cX3_type 74 = .ok (.iload_n 1, 1) := by decide +kernel
theorem dX3_type_75 : decode cX3_type 75 = .ok (.iaload, 1) := by decide +kernel
theorem dX3_type_76 : decode cX3_type 76 = .ok (.ireturn, 1) := by decide +kernel
theorem dX3_type_77 : decode cX3_type 77 = .ok (.iconst 0, 1) := by decide +kernel
theorem dX3_type_78 : decode cX3_type 78 = .ok (.istore_n 3, 1) := by decide +kernel
theorem dX3_type_79 : decode cX3_type 79 = .ok (.bipush 8, 2) := by decide +kernel
theorem dX3_type_81 : decode cX3_type 81 = .ok (.istore 4, 2) := by decide +kernel
theorem dX3_type_83 : decode cX3_type 83 = .ok (.iload 4, 2) := by decide +kernel
theorem dX3_type_85 : decode cX3_type 85 = .ok (.aload_n 0, 1) := by decide +kernel
theorem dX3_type_86 : decode cX3_type 86 = .ok (.getfield 44, 3) := by decide +kernel
theorem dX3_type_89 : decode cX3_type 89 = .ok (.if_icmp .ge 40, 3) := by decide +kernel
theorem dX3_type_92 : decode cX3_type 92 = .ok (.aload_n 0, 1) := by decide +kernel
theorem dX3_type_93 : decode cX3_type 93 = .ok (.iload_n 1, 1) := by decide +kernel
theorem dX3_type_94 : decode cX3_type 94 = .ok (.invokevirtual 55, 3) := by decide +kernel
theorem dX3_type_97 : decode cX3_type 97 = .ok (.ifCond .eq 32, 3) := by decide +kernel
theorem dX3_type_100 : decode cX3_type 100 = .ok (.iload_n 3, 1) := by decide +kernel
theorem dX3_type_101 : decode cX3_type 101 = .ok (.aload_n 0, 1) := by decide +kernel
theorem dX3_type_102 : decode cX3_type 102 = .ok (.getfield 23, 3) := by decide +kernel
theorem dX3_type_105 : decode cX3_type 105 = .ok (.bipush 40, 2) := by decide +kernel
theorem dX3_type_107 : decode cX3_type 107 = .ok (.iload_n 1, 1) := by decide +kernel
theorem dX3_type_108 : decode cX3_type 108 = .ok (.imul, 1) := by decide +kernel
theorem dX3_type_109 : decode cX3_type 109 = .ok (.iload 4, 2) := by decide +kernel
theorem dX3_type_111 : decode cX3_type 111 = .ok (.iadd, 1) := by decide +kernel
theorem dX3_type_112 : decode cX3_type 112 = .ok (.baload, 1) := by decide +kernel
theorem dX3_type_113 : decode cX3_type 113 = .ok (.ifCond .eq 7, 3) := by decide +kernel
theorem dX3_type_116 : decode cX3_type 116 = .ok (.iconst 1, 1) := by decide +kernel
theorem dX3_type_117 : decode cX3_type 117 = .ok (.goto 4, 3) := by decide +kernel
theorem dX3_type_120 : decode cX3_type 120 = .ok (.iconst 0, 1) := by decide +kernel
theorem dX3_type_121 : decode cX3_type 121 = .ok (.iadd, 1) := by decide +kernel
theorem dX3_type_122 : decode cX3_type 122 = .ok (.istore_n 3, 1) := by decide +kernel
theorem dX3_type_123 : decode cX3_type 123 = .ok (.iinc 4 1, 3) := by decide +kernel
theorem dX3_type_126 : decode cX3_type 126 = .ok (.goto (-43), 3) := by decide +kernel
theorem dX3_type_129 : decode cX3_type 129 = .ok (.iload_n 3, 1) := by decide +kernel
theorem dX3_type_130 : decode cX3_type 130 = .ok (.ireturn, 1) := by decide +kernel
theorem dX3_type_131 : decode cX3_type 131 = .ok (.bipush (-2), 2) := by decide +kernel
theorem dX3_type_133 : decode cX3_type 133 = .ok (.ireturn, 1) := by decide +kernel
set_option maxRecDepth 20000 in
theorem ggX3_under_X3_isType : GoodIn wsX3_under wsX3_isType := goodIn_r _ [7, 8, 9, 10, 6, 11, 16, 17, 18, 19, 20, 21, 22, 23, 24, 25] (by decide +kernel) (by decide +kernel)
set_option maxRecDepth 20000 in
theorem gX3_under_X3_isType : GoodIn wsX3_under (wsV RX3 59 RX3 yX3_isType wsX3_isType) := goodIn_app (goodIn_of _ (by decide +kernel)) ggX3_under_X3_isType
set_option maxRecDepth 20000 in
theorem ggX3_under_X3_isReference : GoodIn wsX3_under wsX3_isReference := goodIn_r _ [15] (by decide +kernel) (by decide +kernel)
set_option maxRecDepth 20000 in
theorem gX3_under_X3_isReference : GoodIn wsX3_under (wsV RX3 55 RX3 yX3_isReference wsX3_isReference) := goodIn_app (goodIn_of _ (by decide +kernel)) ggX3_under_X3_isReference
theorem dX3_under_0 : decode cX3_under 0 = .ok (.aload_n 0, 1) := by decide +kernel
theorem dX3_under_1 : decode cX3_under 1 = .ok (.iconst 0, 1) := by decide +kernel
theorem dX3_under_2 : decode cX3_under 2 = .ok (.putfield 40, 3) := by decide +kernel
theorem dX3_under_5 : decode cX3_under 5 = .ok (.aload_n 0, 1) := by decide +kernel
theorem dX3_under_6 : decode cX3_under 6 = .ok (.iload_n 1, 1) := by decide +kernel
theorem dX3_under_7 : decode cX3_under 7 = .ok (.invokevirtual 59, 3) := by decide +kernel
theorem dX3_under_10 : decode cX3_under 10 = .ok (.ifCond .eq 11, 3) := by decide +kernel
theorem dX3_under_13 : decode cX3_under 13 = .ok (.aload_n 0, 1) := by decide +kernel
theorem dX3_under_14 : decode cX3_under 14 = .ok (.iload_n 2, 1) := by decide +kernel
theorem dX3_under_15 : decode cX3_under 15 = .ok (.invokevirtual 59, 3) := by decide +kernel
theorem dX3_under_18 : decode cX3_under 18 = .ok (.ifCond .ne 5, 3) := by decide +kernel
theorem dX3_under_21 : decode cX3_under 21 = .ok (.iconst (-1), 1) := by decide +kernel
theorem dX3_under_22 : decode cX3_under 22 = .ok (.ireturn, 1) := by decide +kernel
theorem dX3_under_23 : decode cX3_under 23 = .ok (.aload_n 0, 1) := by decide +kernel
theorem dX3_under_24 : decode cX3_under 24 = .ok (.iload_n 1, 1) := by decide +kernel
theorem dX3_under_25 : decode cX3_under 25 = .ok (.invokevirtual 55, 3) := by decide +kernel
theorem dX3_under_28 : decode cX3_under 28 = .ok (.ifCond .eq 11, 3) := by decide +kernel
theorem dX3_under_31 : decode cX3_under 31 = .ok (.aload_n 0, 1) := by decide +kernel
theorem dX3_under_32 : decode cX3_under 32 = .ok (.iload_n 2, 1) := by decide +kernel
theorem dX3_under_33 : decode cX3_under 33 = .ok (.invokevirtual 55, 3) := by decide +kernel
theorem dX3_under_36 : decode cX3_under 36 = .ok (.ifCond .ne 6, 3) := by decide +kernel
theorem dX3_under_39 : decode cX3_under 39 = .ok (.bipush (-2), 2) := by decide +kernel
theorem dX3_under_41 : decode cX3_under 41 = .ok (.ireturn, 1) := by decide +kernel
theorem dX3_under_42 : decode cX3_under 42 = .ok (.aload_n 0, 1) := by decide +kernel
theorem dX3_under_43 : decode cX3_under 43 = .ok (.getfield 23, 3) := by decide +kernel
theorem dX3_under_46 : decode cX3_under 46 = .ok (.bipush 40, 2) := by decide +kernel
theorem dX3_under_48 : decode cX3_under 48 = .ok (.iload_n 1, 1) := by decide +kernel
theorem dX3_under_49 : decode cX3_under 49 = .ok (.imul, 1) := by decide +kernel
theorem dX3_under_50 : decode cX3_under 50 = .ok (.iload_n 2, 1) := by decide +kernel
theorem dX3_under_51 : decode cX3_under 51 = .ok (.iadd, 1) := by decide +kernel
theorem dX3_under_52 : decode cX3_under 52 = .ok (.baload, 1) := by decide +kernel
theorem dX3_under_53 : decode cX3_under 53 = .ok (.ifCond .eq 7, 3) := by decide +kernel
theorem dX3_under_56 : decode cX3_under 56 = .ok (.iconst 1, 1) := by decide +kernel
theorem dX3_under_57 : decode cX3_under 57 = .ok (.goto 4, 3) := by decide +kernel
theorem dX3_under_60 : decode cX3_under 60 = .ok (.iconst 0, 1) := by decide +kernel
theorem dX3_under_61 : decode cX3_under 61 = .ok (.ireturn, 1) := by decide +kernel
set_option maxRecDepth 20000 in
theorem ggX3_isWider_X3_in : GoodIn wsX3_isWider wsX3_in := goodIn_r _ [4] (by decide +kernel) (by decide +kernel)
set_option maxRecDepth 20000 in
theorem gX3_isWider_X3_in : GoodIn wsX3_isWider (va_wsS RX3 47 yX3_in wsX3_in) := goodIn_app (goodIn_of _ (by decide +kernel)) ggX3_isWider_X3_in
theorem dX3_isWider_0 : decode cX3_isWider 0 = .ok (.iload_n 0, 1) := by decide +kernel
theorem dX3_isWider_1 : decode cX3_isWider 1 = .ok (.tableswitch 92 1 6 #[39, 47, 55, 63, 71, 80], 39) := by decide +kernel
theorem dX3_isWider_40 : decode cX3_isWider 40 = .ok (.iload_n 1, 1) := by decide +kernel
theorem dX3_isWider_41 : decode cX3_isWider 41 = .ok (.iconst 4, 1) := by decide +kernel
theorem dX3_isWider_42 : decode cX3_isWider 42 = .ok (.bipush 7, 2) := by decide +kernel
theorem dX3_isWider_44 : decode cX3_isWider 44 = .ok (.invokestatic 47, 3) := by decide +kernel
theorem dX3_isWider_47 : decode cX3_isWider 47 = .ok (.ireturn, 1) := by decide +kernel
theorem dX3_isWider_48 : decode cX3_isWider 48 = .ok (.iload_n 1, 1) := by decide +kernel
theorem dX3_isWider_49 : decode cX3_isWider 49 = .ok (.iconst 3, 1) := by decide +kernel
theorem dX3_isWider_50 : decode cX3_isWider 50 = .ok (.bipush 7, 2) := by decide +kernel
theorem dX3_isWider_52 : decode cX3_isWider 52 = .ok (.invokestatic 47, 3) := by decide +kernel
theorem dX3_isWider_55 : decode cX3_isWider 55 = .ok (.ireturn, 1) := by decide +kernel
theorem dX3_isWider_56 : decode cX3_isWider 56 = .ok (.iload_n 1, 1) := by decide +kernel
theorem dX3_isWider_57 : decode cX3_isWider 57 = .ok (.iconst 4, 1) := by decide +kernel
theorem dX3_isWider_58 : decode cX3_isWider 58 = .ok (.bipush 7, 2) := by decide +kernel
theorem dX3_isWider_60 : decode cX3_isWider 60 = .ok (.invokestatic 47, 3) := by decide +kernel
theorem dX3_isWider_63 : decode cX3_isWider 63 = .ok (.ireturn, 1) := by decide +kernel
theorem dX3_isWider_64 : decode cX3_isWider 64 = .ok (.iload_n 1, 1) := by decide +kernel
theorem dX3_isWider_65 : decode cX3_isWider 65 = .ok (.iconst 5, 1) := by decide +kernel
theorem dX3_isWider_66 : decode cX3_isWider 66 = .ok (.bipush 7, 2) := by decide +kernel
theorem dX3_isWider_68 : decode cX3_isWider 68 = .ok (.invokestatic 47, 3) := by decide +kernel
theorem dX3_isWider_71 : decode cX3_isWider 71 = .ok (.ireturn, 1) := by decide +kernel
theorem dX3_isWider_72 : decode cX3_isWider 72 = .ok (.iload_n 1, 1) := by decide +kernel
theorem dX3_isWider_73 : decode cX3_isWider 73 = .ok (.bipush 6, 2) := by decide +kernel
theorem dX3_isWider_75 : decode cX3_isWider 75 = .ok (.bipush 7, 2) := by decide +kernel
theorem dX3_isWider_77 : decode cX3_isWider 77 = .ok (.invokestatic 47, 3) := by decide +kernel
theorem dX3_isWider_80 : decode cX3_isWider 80 = .ok (.ireturn, 1) := by decide +kernel
theorem dX3_isWider_81 : decode cX3_isWider 81 = .ok (.iload_n 1, 1) := by decide +kernel
theorem dX3_isWider_82 : decode cX3_isWider 82 = .ok (.bipush 7, 2) := by decide +kernel
theorem dX3_isWider_84 : decode cX3_isWider 84 = .ok (.if_icmp .ne 7, 3) := by decide +kernel
theorem dX3_isWider_87 : decode cX3_isWider 87 = .ok (.iconst 1, 1) := by decide +kernel
theorem dX3_isWider_88 : decode cX3_isWider 88 = .ok (.goto 4, 3) := by decide +kernel
theorem dX3_isWider_91 : decode cX3_isWider 91 = .ok (.iconst 0, 1) := by decide +kernel
theorem dX3_isWider_92 : decode cX3_isWider 92 = .ok (.ireturn, 1) := by decide +kernel
theorem dX3_isWider_93 : decode cX3_isWider 93 = .ok (.iconst 0, 1) := by decide +kernel
theorem dX3_isWider_94 : decode cX3_isWider 94 = .ok (.ireturn, 1) := by decide +kernel
set_option maxRecDepth 20000 in
theorem ggX3_isUp_X3_isReference : GoodIn wsX3_isUp wsX3_isReference := goodIn_r _ [6] (by decide +kernel) (by decide +kernel)
set_option maxRecDepth 20000 in
theorem gX3_isUp_X3_isReference : GoodIn wsX3_isUp (wsV RX3 55 RX3 yX3_isReference wsX3_isReference) := goodIn_app (goodIn_of _ (by decide +kernel)) ggX3_isUp_X3_isReference
theorem dX3_isUp_0 : decode cX3_isUp 0 = .ok (.aload_n 0, 1) := by decide +kernel
theorem dX3_isUp_1 : decode cX3_isUp 1 = .ok (.iload_n 1, 1) := by decide +kernel
theorem dX3_isUp_2 : decode cX3_isUp 2 = .ok (.invokevirtual 55, 3) := by decide +kernel
theorem dX3_isUp_5 : decode cX3_isUp 5 = .ok (.ifCond .eq 34, 3) := by decide +kernel
theorem dX3_isUp_8 : decode cX3_isUp 8 = .ok (.aload_n 0, 1) := by decide +kernel
theorem dX3_isUp_9 : decode cX3_isUp 9 = .ok (.iload_n 2, 1) := by decide +kernel
theorem dX3_isUp_10 : decode cX3_isUp 10 = .ok (.invokevirtual 55, 3) := by decide +kernel
theorem dX3_isUp_13 : decode cX3_isUp 13 = .ok (.ifCond .eq 26, 3) := by decide +kernel
theorem dX3_isUp_16 : decode cX3_isUp 16 = .ok (.iload_n 1, 1) := by decide +kernel
theorem dX3_isUp_17 : decode cX3_isUp 17 = .ok (.iload_n 2, 1) := by decide +kernel
theorem dX3_isUp_18 : decode cX3_isUp 18 = .ok (.if_icmp .eq 21, 3) := by decide +kernel
theorem dX3_isUp_21 : decode cX3_isUp 21 = .ok (.aload_n 0, 1) := by decide +kernel
theorem dX3_isUp_22 : decode cX3_isUp 22 = .ok (.getfield 23, 3) := by decide +kernel
theorem dX3_isUp_25 : decode cX3_isUp 25 = .ok (.bipush 40, 2) := by decide +kernel
theorem dX3_isUp_27 : decode cX3_isUp 27 = .ok (.iload_n 1, 1) := by decide +kernel
theorem dX3_isUp_28 : decode cX3_isUp 28 = .ok (.imul, 1) := by decide +kernel
theorem dX3_isUp_29 : decode cX3_isUp 29 = .ok (.iload_n 2, 1) := by decide +kernel
theorem dX3_isUp_30 : decode cX3_isUp 30 = .ok (.iadd, 1) := by decide +kernel
theorem dX3_isUp_31 : decode cX3_isUp 31 = .ok (.baload, 1) := by decide +kernel
theorem dX3_isUp_32 : decode cX3_isUp 32 = .ok (.ifCond .eq 7, 3) := by decide +kernel
theorem dX3_isUp_35 : decode cX3_isUp 35 = .ok (.iconst 1, 1) := by decide +kernel
theorem dX3_isUp_36 : decode cX3_isUp 36 = .ok (.goto 4, 3) := by decide +kernel
theorem dX3_isUp_39 : decode cX3_isUp 39 = .ok (.iconst 0, 1) := by decide +kernel
theorem dX3_isUp_40 : decode cX3_isUp 40 = .ok (.ireturn, 1) := by decide +kernel
set_option maxRecDepth 20000 in
theorem ggX3_isDown_X3_isReference : GoodIn wsX3_isDown wsX3_isReference := goodIn_r _ [9] (by decide +kernel) (by decide +kernel)
set_option maxRecDepth 20000 in
theorem gX3_isDown_X3_isReference : GoodIn wsX3_isDown (wsV RX3 55 RX3 yX3_isReference wsX3_isReference) := goodIn_app (goodIn_of _ (by decide +kernel)) ggX3_isDown_X3_isReference
set_option maxRecDepth 20000 in
theorem ggX3_isDown_X3_isUp : GoodIn wsX3_isDown wsX3_isUp := goodIn_ca (goodIn_r _ [13, 2, 5, 6, 7, 8, 9, 14, 15, 16, 17, 18, 19, 20, 21, 22, 23] (by decide +kernel) (by decide +kernel)) (goodIn_sub (fun _ h => List.mem_cons_of_mem _ (List.mem_append_right _ h)) (by decide +kernel))
set_option maxRecDepth 20000 in
theorem gX3_isDown_X3_isUp : GoodIn wsX3_isDown (wsV RX3 65 RX3 yX3_isUp wsX3_isUp) := goodIn_app (goodIn_of _ (by decide +kernel)) ggX3_isDown_X3_isUp
theorem dX3_isDown_0 : decode cX3_isDown 0 = .ok (.iload_n 1, 1) := by decide +kernel
theorem dX3_isDown_1 : decode cX3_isDown 1 = .ok (.istore_n 3, 1) := by decide +kernel
theorem dX3_isDown_2 : decode cX3_isDown 2 = .ok (.iload_n 2, 1) := by decide +kernel
theorem dX3_isDown_3 : decode cX3_isDown 3 = .ok (.istore 4, 2) := by decide +kernel
theorem dX3_isDown_5 : decode cX3_isDown 5 = .ok (.aload_n 0, 1) := by decide +kernel
theorem dX3_isDown_6 : decode cX3_isDown 6 = .ok (.iload_n 3, 1) := by decide +kernel
theorem dX3_isDown_7 : decode cX3_isDown 7 = .ok (.invokevirtual 55, 3) := by decide +kernel
theorem dX3_isDown_10 : decode cX3_isDown 10 = .ok (.ifCond .eq 48, 3) := by decide +kernel
theorem dX3_isDown_13 : decode cX3_isDown 13 = .ok (.aload_n 0, 1) := by decide +kernel
theorem dX3_isDown_14 : decode cX3_isDown 14 = .ok (.iload 4, 2) := by decide +kernel
theorem dX3_isDown_16 : decode cX3_isDown 16 = .ok (.invokevirtual 55, 3) := by decide +kernel
theorem dX3_isDown_19 : decode cX3_isDown 19 = .ok (.ifCond .eq 39, 3) := by decide +kernel
theorem dX3_isDown_22 : decode cX3_isDown 22 = .ok (.aload_n 0, 1) := by decide +kernel
theorem dX3_isDown_23 : decode cX3_isDown 23 = .ok (.getfield 7, 3) := by decide +kernel
theorem dX3_isDown_26 : decode cX3_isDown 26 = .ok (.iload_n 3, 1) := by decide +kernel
theorem dX3_isDown_27 : decode cX3_isDown 27 = .ok (.iaload, 1) := by decide +kernel
theorem dX3_isDown_28 : decode cX3_isDown 28 = .ok (.iconst 4, 1) := by decide +kernel
theorem dX3_isDown_29 : decode cX3_isDown 29 = .ok (.if_icmp .eq 29, 3) := by decide +kernel
theorem dX3_isDown_32 : decode cX3_isDown 32 = .ok (.aload_n 0, 1) := by decide +kernel
theorem dX3_isDown_33 : decode cX3_isDown 33 = .ok (.getfield 7, 3) := by decide +kernel
theorem dX3_isDown_36 : decode cX3_isDown 36 = .ok (.iload 4, 2) := by decide +kernel
theorem dX3_isDown_38 : decode cX3_isDown 38 = .ok (.iaload, 1) := by decide +kernel
theorem dX3_isDown_39 : decode cX3_isDown 39 = .ok (.iconst 4, 1) := by decide +kernel
theorem dX3_isDown_40 : decode cX3_isDown 40 = .ok (.if_icmp .eq 18, 3) := by decide +kernel
theorem dX3_isDown_43 : decode cX3_isDown 43 = .ok (.aload_n 0, 1) := by decide +kernel
theorem dX3_isDown_44 : decode cX3_isDown 44 = .ok (.getfield 23, 3) := by decide +kernel
theorem dX3_isDown_47 : decode cX3_isDown 47 = .ok (.bipush 40, 2) := by decide +kernel
theorem dX3_isDown_49 : decode cX3_isDown 49 = .ok (.iload_n 3, 1) := by decide +kernel
theorem dX3_isDown_50 : decode cX3_isDown 50 = .ok (.imul, 1) := by decide +kernel
theorem dX3_isDown_51 : decode cX3_isDown 51 = .ok (.iload 4, 2) := by decide +kernel
theorem dX3_isDown_53 : decode cX3_isDown 53 = .ok (.iadd, 1) := by decide +kernel
theorem dX3_isDown_54 : decode cX3_isDown 54 = .ok (.baload, 1) := by decide +kernel
theorem dX3_isDown_55 : decode cX3_isDown 55 = .ok (.ifCond .eq 5, 3) := by decide +kernel
theorem dX3_isDown_58 : decode cX3_isDown 58 = .ok (.iconst 0, 1) := by decide +kernel
theorem dX3_isDown_59 : decode cX3_isDown 59 = .ok (.ireturn, 1) := by decide +kernel
theorem dX3_isDown_60 : decode cX3_isDown 60 = .ok (.aload_n 0, 1) := by decide +kernel
theorem dX3_isDown_61 : decode cX3_isDown 61 = .ok (.getfield 23, 3) := by decide +kernel
theorem dX3_isDown_64 : decode cX3_isDown 64 = .ok (.bipush 40, 2) := by decide +kernel
theorem dX3_isDown_66 : decode cX3_isDown 66 = .ok (.iload 4, 2) := by decide +kernel
theorem dX3_isDown_68 : decode cX3_isDown 68 = .ok (.imul, 1) := by decide +kernel
theorem dX3_isDown_69 : decode cX3_isDown 69 = .ok (.iload_n 3, 1) := by decide +kernel
theorem dX3_isDown_70 : decode cX3_isDown 70 = .ok (.iadd, 1) := by decide +kernel
theorem dX3_isDown_71 : decode cX3_isDown 71 = .ok (.baload, 1) := by decide +kernel
theorem dX3_isDown_72 : decode cX3_isDown 72 = .ok (.ifCond .ne 24, 3) := by decide +kernel
theorem dX3_isDown_75 : decode cX3_isDown 75 = .ok (.aload_n 0, 1) := by decide +kernel
theorem dX3_isDown_76 : decode cX3_isDown 76 = .ok (.getfield 7, 3) := by decide +kernel
theorem dX3_isDown_79 : decode cX3_isDown 79 = .ok (.iload_n 3, 1) := by decide +kernel
theorem dX3_isDown_80 : decode cX3_isDown 80 = .ok (.iaload, 1) := by decide +kernel
theorem dX3_isDown_81 : decode cX3_isDown 81 = .ok (.iconst 2, 1) := by decide +kernel
theorem dX3_isDown_82 : decode cX3_isDown 82 = .ok (.if_icmp .ne 16, 3) := by decide +kernel
theorem dX3_isDown_85 : decode cX3_isDown 85 = .ok (.aload_n 0, 1) := by decide +kernel
theorem dX3_isDown_86 : decode cX3_isDown 86 = .ok (.getfield 7, 3) := by decide +kernel
theorem dX3_isDown_89 : decode cX3_isDown 89 = .ok (.iload 4, 2) := by decide +kernel
theorem dX3_isDown_91 : decode cX3_isDown 91 = .ok (.iaload, 1) := by decide +kernel
theorem dX3_isDown_92 : decode cX3_isDown 92 = .ok (.iconst 2, 1) := by decide +kernel
theorem dX3_isDown_93 : decode cX3_isDown 93 = .ok (.if_icmp .ne 5, 3) := by decide +kernel
theorem dX3_isDown_96 : decode cX3_isDown 96 = .ok (.iconst 1, 1) := by decide +kernel
theorem dX3_isDown_97 : decode cX3_isDown 97 = .ok (.ireturn, 1) := by decide +kernel
theorem dX3_isDown_98 : decode cX3_isDown 98 = .ok (.aload_n 0, 1) := by decide +kernel
theorem dX3_isDown_99 : decode cX3_isDown 99 = .ok (.getfield 7, 3) := by decide +kernel
theorem dX3_isDown_102 : decode cX3_isDown 102 = .ok (.iload_n 3, 1) := by decide +kernel
theorem dX3_isDown_103 : decode cX3_isDown 103 = .ok (.iaload, 1) := by decide +kernel
theorem dX3_isDown_104 : decode cX3_isDown 104 = .ok (.iconst 2, 1) := by decide +kernel
theorem dX3_isDown_105 : decode cX3_isDown 105 = .ok (.if_icmp .ne 24, 3) := by decide +kernel
theorem dX3_isDown_108 : decode cX3_isDown 108 = .ok (.aload_n 0, 1) := by decide +kernel
theorem dX3_isDown_109 : decode cX3_isDown 109 = .ok (.getfield 7, 3) := by decide +kernel
theorem dX3_isDown_112 : decode cX3_isDown 112 = .ok (.iload 4, 2) := by decide +kernel
theorem dX3_isDown_114 : decode cX3_isDown 114 = .ok (.iaload, 1) := by decide +kernel
theorem dX3_isDown_115 : decode cX3_isDown 115 = .ok (.iconst 1, 1) := by decide +kernel
theorem dX3_isDown_116 : decode cX3_isDown 116 = .ok (.if_icmp .ne 13, 3) := by decide +kernel
theorem dX3_isDown_119 : decode cX3_isDown 119 = .ok (.aload_n 0, 1) := by decide +kernel
theorem dX3_isDown_120 : decode cX3_isDown 120 = .ok (.getfield 13, 3) := by decide +kernel
theorem dX3_isDown_123 : decode cX3_isDown 123 = .ok (.iload 4, 2) := by decide +kernel
theorem dX3_isDown_125 : decode cX3_isDown 125 = .ok (.baload, 1) := by decide +kernel
theorem dX3_isDown_126 : decode cX3_isDown 126 = .ok (.ifCond .eq 33, 3) := by decide +kernel
theorem dX3_isDown_129 : decode cX3_isDown 129 = .ok (.aload_n 0, 1) := by decide +kernel
theorem dX3_isDown_130 : decode cX3_isDown 130 = .ok (.getfield 7, 3) := by decide +kernel
theorem dX3_isDown_133 : decode cX3_isDown 133 = .ok (.iload 4, 2) := by decide +kernel
theorem dX3_isDown_135 : decode cX3_isDown 135 = .ok (.iaload, 1) := by decide +kernel
theorem dX3_isDown_136 : decode cX3_isDown 136 = .ok (.iconst 2, 1) := by decide +kernel
theorem dX3_isDown_137 : decode cX3_isDown 137 = .ok (.if_icmp .ne 24, 3) := by decide +kernel
theorem dX3_isDown_140 : decode cX3_isDown 140 = .ok (.aload_n 0, 1) := by decide +kernel
theorem dX3_isDown_141 : decode cX3_isDown 141 = .ok (.getfield 7, 3) := by decide +kernel
theorem dX3_isDown_144 : decode cX3_isDown 144 = .ok (.iload_n 3, 1) := by decide +kernel
theorem dX3_isDown_145 : decode cX3_isDown 145 = .ok (.iaload, 1) := by decide +kernel
theorem dX3_isDown_146 : decode cX3_isDown 146 = .ok (.iconst 1, 1) := by decide +kernel
theorem dX3_isDown_147 : decode cX3_isDown 147 = .ok (.if_icmp .ne 14, 3) := by decide +kernel
theorem dX3_isDown_150 : decode cX3_isDown 150 = .ok (.aload_n 0, 1) := by decide +kernel
theorem dX3_isDown_151 : decode cX3_isDown 151 = .ok (.getfield 13, 3) := by decide +kernel
theorem dX3_isDown_154 : decode cX3_isDown 154 = .ok (.iload_n 3, 1) := by decide +kernel
theorem dX3_isDown_155 : decode cX3_isDown 155 = .ok (.baload, 1) := by decide +kernel
theorem dX3_isDown_156 : decode cX3_isDown 156 = .ok (.ifCond .ne 5, 3) := by decide +kernel
theorem dX3_isDown_159 : decode cX3_isDown 159 = .ok (.iconst 1, 1) := by decide +kernel
theorem dX3_isDown_160 : decode cX3_isDown 160 = .ok (.ireturn, 1) := by decide +kernel
theorem dX3_isDown_161 : decode cX3_isDown 161 = .ok (.aload_n 0, 1) := by decide +kernel
theorem dX3_isDown_162 : decode cX3_isDown 162 = .ok (.getfield 7, 3) := by decide +kernel
theorem dX3_isDown_165 : decode cX3_isDown 165 = .ok (.iload_n 3, 1) := by decide +kernel
theorem dX3_isDown_166 : decode cX3_isDown 166 = .ok (.iaload, 1) := by decide +kernel
theorem dX3_isDown_167 : decode cX3_isDown 167 = .ok (.iconst 3, 1) := by decide +kernel
theorem dX3_isDown_168 : decode cX3_isDown 168 = .ok (.if_icmp .ne 41, 3) := by decide +kernel
theorem dX3_isDown_171 : decode cX3_isDown 171 = .ok (.aload_n 0, 1) := by decide +kernel
theorem dX3_isDown_172 : decode cX3_isDown 172 = .ok (.getfield 7, 3) := by decide +kernel
theorem dX3_isDown_175 : decode cX3_isDown 175 = .ok (.iload 4, 2) := by decide +kernel
theorem dX3_isDown_177 : decode cX3_isDown 177 = .ok (.iaload, 1) := by decide +kernel
theorem dX3_isDown_178 : decode cX3_isDown 178 = .ok (.iconst 3, 1) := by decide +kernel
theorem dX3_isDown_179 : decode cX3_isDown 179 = .ok (.if_icmp .ne 30, 3) := by decide +kernel
theorem dX3_isDown_182 : decode cX3_isDown 182 = .ok (.aload_n 0, 1) := by decide +kernel
theorem dX3_isDown_183 : decode cX3_isDown 183 = .ok (.aload_n 0, 1) := by decide +kernel
theorem dX3_isDown_184 : decode cX3_isDown 184 = .ok (.getfield 17, 3) := by decide +kernel
theorem dX3_isDown_187 : decode cX3_isDown 187 = .ok (.iload_n 3, 1) := by decide +kernel
theorem dX3_isDown_188 : decode cX3_isDown 188 = .ok (.iaload, 1) := by decide +kernel
theorem dX3_isDown_189 : decode cX3_isDown 189 = .ok (.invokevirtual 55, 3) := by decide +kernel
theorem dX3_isDown_192 : decode cX3_isDown 192 = .ok (.ifCond .eq 17, 3) := by decide +kernel
theorem dX3_isDown_195 : decode cX3_isDown 195 = .ok (.aload_n 0, 1) := by decide +kernel
theorem dX3_isDown_196 : decode cX3_isDown 196 = .ok (.aload_n 0, 1) := by decide +kernel
theorem dX3_isDown_197 : decode cX3_isDown 197 = .ok (.getfield 17, 3) := by decide +kernel
theorem dX3_isDown_200 : decode cX3_isDown 200 = .ok (.iload 4, 2) := by decide +kernel
theorem dX3_isDown_202 : decode cX3_isDown 202 = .ok (.iaload, 1) := by decide +kernel
theorem dX3_isDown_203 : decode cX3_isDown 203 = .ok (.invokevirtual 55, 3) := by decide +kernel
theorem dX3_isDown_206 : decode cX3_isDown 206 = .ok (.ifCond .ne 5, 3) := by decide +kernel
theorem dX3_isDown_209 : decode cX3_isDown 209 = .ok (.iconst 0, 1) := by decide +kernel
theorem dX3_isDown_210 : decode cX3_isDown 210 = .ok (.ireturn, 1) := by decide +kernel
theorem dX3_isDown_211 : decode cX3_isDown 211 = .ok (.aload_n 0, 1) := by decide +kernel
theorem dX3_isDown_212 : decode cX3_isDown 212 = .ok (.getfield 17, 3) := by decide +kernel
theorem dX3_isDown_215 : decode cX3_isDown 215 = .ok (.iload_n 3, 1) := by decide +kernel
theorem dX3_isDown_216 : decode cX3_isDown 216 = .ok (.iaload, 1) := by decide +kernel
theorem dX3_isDown_217 : decode cX3_isDown 217 = .ok (.istore_n 3, 1) := by decide +kernel
theorem dX3_isDown_218 : decode cX3_isDown 218 = .ok (.aload_n 0, 1) := by decide +kernel
theorem dX3_isDown_219 : decode cX3_isDown 219 = .ok (.getfield 17, 3) := by decide +kernel
theorem dX3_isDown_222 : decode cX3_isDown 222 = .ok (.iload 4, 2) := by decide +kernel
theorem dX3_isDown_224 : decode cX3_isDown 224 = .ok (.iaload, 1) := by decide +kernel
theorem dX3_isDown_225 : decode cX3_isDown 225 = .ok (.istore 4, 2) := by decide +kernel
theorem dX3_isDown_227 : decode cX3_isDown 227 = .ok (.aload_n 0, 1) := by decide +kernel
theorem dX3_isDown_228 : decode cX3_isDown 228 = .ok (.iload_n 3, 1) := by decide +kernel
theorem dX3_isDown_229 : decode cX3_isDown 229 = .ok (.iload 4, 2) := by decide +kernel
theorem dX3_isDown_231 : decode cX3_isDown 231 = .ok (.invokevirtual 65, 3) := by decide +kernel
theorem dX3_isDown_234 : decode cX3_isDown 234 = .ok (.ifCond .eq (-229), 3) := by decide +kernel
theorem dX3_isDown_237 : decode cX3_isDown 237 = .ok (.iconst 1, 1) := by decide +kernel
theorem dX3_isDown_238 : decode cX3_isDown 238 = .ok (.ireturn, 1) := by decide +kernel
set_option maxRecDepth 20000 in
theorem ggX3_leads_X3_isWider : GoodIn wsX3_leads wsX3_isWider := goodIn_r _ [4, 5, 6, 3, 7] (by decide +kernel) (by decide +kernel)
set_option maxRecDepth 20000 in
theorem gX3_leads_X3_isWider : GoodIn wsX3_leads (va_wsS RX3 68 yX3_isWider wsX3_isWider) := goodIn_app (goodIn_of _ (by decide +kernel)) ggX3_leads_X3_isWider
set_option maxRecDepth 20000 in
theorem ggX3_leads_X3_isNumber : GoodIn wsX3_leads wsX3_isNumber := goodIn_r _ [10, 5, 6, 3, 7] (by decide +kernel) (by decide +kernel)
set_option maxRecDepth 20000 in
theorem gX3_leads_X3_isNumber : GoodIn wsX3_leads (va_wsS RX3 71 yX3_isNumber wsX3_isNumber) := goodIn_app (goodIn_of _ (by decide +kernel)) ggX3_leads_X3_isNumber
set_option maxRecDepth 20000 in
theorem ggX3_leads_X3_isUp : GoodIn wsX3_leads wsX3_isUp := goodIn_ca (goodIn_r _ [14, 15, 16, 17, 18, 3, 19, 30, 31, 32, 33, 34, 35, 36, 37, 38, 39] (by decide +kernel) (by decide +kernel)) (goodIn_sub (fun _ h => List.mem_cons_of_mem _ (List.mem_append_right _ h)) (by decide +kernel))
set_option maxRecDepth 20000 in
theorem gX3_leads_X3_isUp : GoodIn wsX3_leads (wsV RX3 65 RX3 yX3_isUp wsX3_isUp) := goodIn_app (goodIn_of _ (by decide +kernel)) ggX3_leads_X3_isUp
set_option maxRecDepth 20000 in
theorem ggX3_leads_X3_isBox : GoodIn wsX3_leads wsX3_isBox := goodIn_r _ [22, 5, 6, 3, 7] (by decide +kernel) (by decide +kernel)
set_option maxRecDepth 20000 in
theorem gX3_leads_X3_isBox : GoodIn wsX3_leads (va_wsS RX3 74 yX3_isBox wsX3_isBox) := goodIn_app (goodIn_of _ (by decide +kernel)) ggX3_leads_X3_isBox
set_option maxRecDepth 20000 in
theorem ggX3_leads_X3_isDown : GoodIn wsX3_leads wsX3_isDown := goodIn_ca (goodIn_r _ [26, 27, 15, 28, 29, 16, 17, 18, 3, 19, 11, 12, 13, 14, 30, 31, 32, 33, 34, 35, 36, 37, 38, 39] (by decide +kernel) (by decide +kernel)) (goodIn_sub (fun _ h => List.mem_cons_of_mem _ (List.mem_append_right _ h)) (by decide +kernel))
set_option maxRecDepth 20000 in
theorem gX3_leads_X3_isDown : GoodIn wsX3_leads (wsV RX3 77 RX3 yX3_isDown wsX3_isDown) := goodIn_app (goodIn_of _ (by decide +kernel)) ggX3_leads_X3_isDown
theorem dX3_leads_0 : decode cX3_leads 0 = .ok (.iload_n 2, 1) := by decide +kernel
theorem dX3_leads_1 : decode cX3_leads 1 = .ok (.bipush 8, 2) := by decide +kernel
theorem dX3_leads_3 : decode cX3_leads 3 = .ok (.if_icmp .ge 7, 3) := by decide +kernel
theorem dX3_leads_6 : decode cX3_leads 6 = .ok (.iconst 1, 1) := by decide +kernel
theorem dX3_leads_7 : decode cX3_leads 7 = .ok (.goto 4, 3) := by decide +kernel
theorem dX3_leads_10 : decode cX3_leads 10 = .ok (.iconst 0, 1) := by decide +kernel
theorem dX3_leads_11 : decode cX3_leads 11 = .ok (.istore 4, 2) := by decide +kernel
theorem dX3_leads_13 : decode cX3_leads 13 = .ok (.iload_n 1, 1) := by decide +kernel
theorem dX3_leads_14 : decode cX3_leads 14 = .ok (.tableswitch 259 1 11 #[58, 69, 75, 118, 134, 153, 176, 197, 221, 228, 235], 58) := by decide +kernel
theorem dX3_leads_72 : decode cX3_leads 72 = .ok (.iload_n 2, 1) := by decide +kernel
theorem dX3_leads_73 : decode cX3_leads 73 = .ok (.iload_n 3, 1) := by decide +kernel
theorem dX3_leads_74 : decode cX3_leads 74 = .ok (.if_icmp .ne 7, 3) := by decide +kernel
theorem dX3_leads_77 : decode cX3_leads 77 = .ok (.iconst 1, 1) := by decide +kernel
theorem dX3_leads_78 : decode cX3_leads 78 = .ok (.goto 4, 3) := by decide +kernel
theorem dX3_leads_81 : decode cX3_leads 81 = .ok (.iconst 0, 1) := by decide +kernel
theorem dX3_leads_82 : decode cX3_leads 82 = .ok (.ireturn, 1) := by decide +kernel
theorem dX3_leads_83 : decode cX3_leads 83 = .ok (.iload_n 2, 1) := by decide +kernel
theorem dX3_leads_84 : decode cX3_leads 84 = .ok (.iload_n 3, 1) := by decide +kernel
theorem dX3_leads_85 : decode cX3_leads 85 = .ok (.invokestatic 68, 3) := by decide +kernel
theorem dX3_leads_88 : decode cX3_leads 88 = .ok (.ireturn, 1) := by decide +kernel
theorem dX3_leads_89 : decode cX3_leads 89 = .ok (.iload_n 2, 1) := by decide +kernel
theorem dX3_leads_90 : decode cX3_leads 90 = .ok (.invokestatic 71, 3) := by decide +kernel
theorem dX3_leads_93 : decode cX3_leads 93 = .ok (.ifCond .eq 37, 3) := by decide +kernel
theorem dX3_leads_96 : decode cX3_leads 96 = .ok (.iload_n 3, 1) := by decide +kernel
theorem dX3_leads_97 : decode cX3_leads 97 = .ok (.invokestatic 71, 3) := by decide +kernel
theorem dX3_leads_100 : decode cX3_leads 100 = .ok (.ifCond .eq 30, 3) := by decide +kernel
theorem dX3_leads_103 : decode cX3_leads 103 = .ok (.iload_n 2, 1) := by decide +kernel
theorem dX3_leads_104 : decode cX3_leads 104 = .ok (.iload_n 3, 1) := by decide +kernel
theorem dX3_leads_105 : decode cX3_leads 105 = .ok (.if_icmp .eq 25, 3) := by decide +kernel
theorem dX3_leads_108 : decode cX3_leads 108 = .ok (.iload_n 2, 1) := by decide +kernel
theorem dX3_leads_109 : decode cX3_leads 109 = .ok (.iload_n 3, 1) := by decide +kernel
theorem dX3_leads_110 : decode cX3_leads 110 = .ok (.invokestatic 68, 3) := by decide +kernel
theorem dX3_leads_113 : decode cX3_leads 113 = .ok (.ifCond .ne 17, 3) := by decide +kernel
theorem dX3_leads_116 : decode cX3_leads 116 = .ok (.iload_n 2, 1) := by decide +kernel
theorem dX3_leads_117 : decode cX3_leads 117 = .ok (.iconst 2, 1) := by decide +kernel
theorem dX3_leads_118 : decode cX3_leads 118 = .ok (.if_icmp .ne 8, 3) := by decide +kernel
theorem dX3_leads_121 : decode cX3_leads 121 = .ok (.iload_n 3, 1) := by decide +kernel
theorem dX3_leads_122 : decode cX3_leads 122 = .ok (.iconst 1, 1) := by decide +kernel
theorem dX3_leads_123 : decode cX3_leads 123 = .ok (.if_icmp .eq 7, 3) := by decide +kernel
theorem dX3_leads_126 : decode cX3_leads 126 = .ok (.iconst 1, 1) := by decide +kernel
theorem dX3_leads_127 : decode cX3_leads 127 = .ok (.goto 4, 3) := by decide +kernel
theorem dX3_leads_130 : decode cX3_leads 130 = .ok (.iconst 0, 1) := by decide +kernel
theorem dX3_leads_131 : decode cX3_leads 131 = .ok (.ireturn, 1) := by decide +kernel
theorem dX3_leads_132 : decode cX3_leads 132 = .ok (.iload_n 2, 1) := by decide +kernel
theorem dX3_leads_133 : decode cX3_leads 133 = .ok (.iconst 2, 1) := by decide +kernel
theorem dX3_leads_134 : decode cX3_leads 134 = .ok (.if_icmp .ne 12, 3) := by decide +kernel
theorem dX3_leads_137 : decode cX3_leads 137 = .ok (.iload_n 3, 1) := by decide +kernel
theorem dX3_leads_138 : decode cX3_leads 138 = .ok (.iconst 1, 1) := by decide +kernel
theorem dX3_leads_139 : decode cX3_leads 139 = .ok (.if_icmp .ne 7, 3) := by decide +kernel
theorem dX3_leads_142 : decode cX3_leads 142 = .ok (.iconst 1, 1) := by decide +kernel
theorem dX3_leads_143 : decode cX3_leads 143 = .ok (.goto 4, 3) := by decide +kernel
theorem dX3_leads_146 : decode cX3_leads 146 = .ok (.iconst 0, 1) := by decide +kernel
theorem dX3_leads_147 : decode cX3_leads 147 = .ok (.ireturn, 1) := by decide +kernel
theorem dX3_leads_148 : decode cX3_leads 148 = .ok (.iload 4, 2) := by decide +kernel
theorem dX3_leads_150 : decode cX3_leads 150 = .ok (.ifCond .eq 15, 3) := by decide +kernel
theorem dX3_leads_153 : decode cX3_leads 153 = .ok (.iload_n 3, 1) := by decide +kernel
theorem dX3_leads_154 : decode cX3_leads 154 = .ok (.iload_n 2, 1) := by decide +kernel
theorem dX3_leads_155 : decode cX3_leads 155 = .ok (.bipush 8, 2) := by decide +kernel
theorem dX3_leads_157 : decode cX3_leads 157 = .ok (.iadd, 1) := by decide +kernel
theorem dX3_leads_158 : decode cX3_leads 158 = .ok (.if_icmp .ne 7, 3) := by decide +kernel
theorem dX3_leads_161 : decode cX3_leads 161 = .ok (.iconst 1, 1) := by decide +kernel
theorem dX3_leads_162 : decode cX3_leads 162 = .ok (.goto 4, 3) := by decide +kernel
theorem dX3_leads_165 : decode cX3_leads 165 = .ok (.iconst 0, 1) := by decide +kernel
theorem dX3_leads_166 : decode cX3_leads 166 = .ok (.ireturn, 1) := by decide +kernel
theorem dX3_leads_167 : decode cX3_leads 167 = .ok (.iload 4, 2) := by decide +kernel
theorem dX3_leads_169 : decode cX3_leads 169 = .ok (.ifCond .eq 19, 3) := by decide +kernel
theorem dX3_leads_172 : decode cX3_leads 172 = .ok (.aload_n 0, 1) := by decide +kernel
theorem dX3_leads_173 : decode cX3_leads 173 = .ok (.iload_n 2, 1) := by decide +kernel
theorem dX3_leads_174 : decode cX3_leads 174 = .ok (.bipush 8, 2) := by decide +kernel
theorem dX3_leads_176 : decode cX3_leads 176 = .ok (.iadd, 1) := by decide +kernel
theorem dX3_leads_177 : decode cX3_leads 177 = .ok (.iload_n 3, 1) := by decide +kernel
theorem dX3_leads_178 : decode cX3_leads 178 = .ok (.invokevirtual 65, 3) := by decide +kernel
theorem dX3_leads_181 : decode cX3_leads 181 = .ok (.ifCond .eq 7, 3) := by decide +kernel
theorem dX3_leads_184 : decode cX3_leads 184 = .ok (.iconst 1, 1) := by decide +kernel
theorem dX3_leads_185 : decode cX3_leads 185 = .ok (.goto 4, 3) := by decide +kernel
theorem dX3_leads_188 : decode cX3_leads 188 = .ok (.iconst 0, 1) := by decide +kernel
theorem dX3_leads_189 : decode cX3_leads 189 = .ok (.ireturn, 1) := by decide +kernel
theorem dX3_leads_190 : decode cX3_leads 190 = .ok (.iload_n 2, 1) := by decide +kernel
theorem dX3_leads_191 : decode cX3_leads 191 = .ok (.invokestatic 74, 3) := by decide +kernel
theorem dX3_leads_194 : decode cX3_leads 194 = .ok (.ifCond .eq 15, 3) := by decide +kernel
theorem dX3_leads_197 : decode cX3_leads 197 = .ok (.iload_n 3, 1) := by decide +kernel
theorem dX3_leads_198 : decode cX3_leads 198 = .ok (.iload_n 2, 1) := by decide +kernel
theorem dX3_leads_199 : decode cX3_leads 199 = .ok (.bipush 8, 2) := by decide +kernel
theorem dX3_leads_201 : decode cX3_leads 201 = .ok (.isub, 1) := by decide +kernel
theorem dX3_leads_202 : decode cX3_leads 202 = .ok (.if_icmp .ne 7, 3) := by decide +kernel
theorem dX3_leads_205 : decode cX3_leads 205 = .ok (.iconst 1, 1) := by decide +kernel
theorem dX3_leads_206 : decode cX3_leads 206 = .ok (.goto 4, 3) := by decide +kernel
theorem dX3_leads_209 : decode cX3_leads 209 = .ok (.iconst 0, 1) := by decide +kernel
theorem dX3_leads_210 : decode cX3_leads 210 = .ok (.ireturn, 1) := by decide +kernel
theorem dX3_leads_211 : decode cX3_leads 211 = .ok (.iload_n 2, 1) := by decide +kernel
theorem dX3_leads_212 : decode cX3_leads 212 = .ok (.invokestatic 74, 3) := by decide +kernel
theorem dX3_leads_215 : decode cX3_leads 215 = .ok (.ifCond .eq 18, 3) := by decide +kernel
theorem dX3_leads_218 : decode cX3_leads 218 = .ok (.iload_n 2, 1) := by decide +kernel
theorem dX3_leads_219 : decode cX3_leads 219 = .ok (.bipush 8, 2) := by decide +kernel
theorem dX3_leads_221 : decode cX3_leads 221 = .ok (.isub, 1) := by decide +kernel
theorem dX3_leads_222 : decode cX3_leads 222 = .ok (.iload_n 3, 1) := by decide +kernel
theorem dX3_leads_223 : decode cX3_leads 223 = .ok (.invokestatic 68, 3) := by decide +kernel
theorem dX3_leads_226 : decode cX3_leads 226 = .ok (.ifCond .eq 7, 3) := by decide +kernel
theorem dX3_leads_229 : decode cX3_leads 229 = .ok (.iconst 1, 1) := by decide +kernel
theorem dX3_leads_230 : decode cX3_leads 230 = .ok (.goto 4, 3) := by decide +kernel
theorem dX3_leads_233 : decode cX3_leads 233 = .ok (.iconst 0, 1) := by decide +kernel
theorem dX3_leads_234 : decode cX3_leads 234 = .ok (.ireturn, 1) := by decide +kernel
theorem dX3_leads_235 : decode cX3_leads 235 = .ok (.aload_n 0, 1) := by decide +kernel
theorem dX3_leads_236 : decode cX3_leads 236 = .ok (.iload_n 2, 1) := by decide +kernel
theorem dX3_leads_237 : decode cX3_leads 237 = .ok (.iload_n 3, 1) := by decide +kernel
theorem dX3_leads_238 : decode cX3_leads 238 = .ok (.invokevirtual 65, 3) := by decide +kernel
theorem dX3_leads_241 : decode cX3_leads 241 = .ok (.ireturn, 1) := by decide +kernel
theorem dX3_leads_242 : decode cX3_leads 242 = .ok (.aload_n 0, 1) := by decide +kernel
theorem dX3_leads_243 : decode cX3_leads 243 = .ok (.iload_n 2, 1) := by decide +kernel
theorem dX3_leads_244 : decode cX3_leads 244 = .ok (.iload_n 3, 1) := by decide +kernel
theorem dX3_leads_245 : decode cX3_leads 245 = .ok (.invokevirtual 77, 3) := by decide +kernel
theorem dX3_leads_248 : decode cX3_leads 248 = .ok (.ireturn, 1) := by decide +kernel
theorem dX3_leads_249 : decode cX3_leads 249 = .ok (.iload_n 3, 1) := by decide +kernel
theorem dX3_leads_250 : decode cX3_leads 250 = .ok (.bipush 8, 2) := by decide +kernel
theorem dX3_leads_252 : decode cX3_leads 252 = .ok (.if_icmp .ge 19, 3) := by decide +kernel
theorem dX3_leads_255 : decode cX3_leads 255 = .ok (.aload_n 0, 1) := by decide +kernel
theorem dX3_leads_256 : decode cX3_leads 256 = .ok (.iload_n 2, 1) := by decide +kernel
theorem dX3_leads_257 : decode cX3_leads 257 = .ok (.iload_n 3, 1) := by decide +kernel
theorem dX3_leads_258 : decode cX3_leads 258 = .ok (.bipush 8, 2) := by decide +kernel
theorem dX3_leads_260 : decode cX3_leads 260 = .ok (.iadd, 1) := by decide +kernel
theorem dX3_leads_261 : decode cX3_leads 261 = .ok (.invokevirtual 77, 3) := by decide +kernel
theorem dX3_leads_264 : decode cX3_leads 264 = .ok (.ifCond .eq 7, 3) := by decide +kernel
theorem dX3_leads_267 : decode cX3_leads 267 = .ok (.iconst 1, 1) := by decide +kernel
theorem dX3_leads_268 : decode cX3_leads 268 = .ok (.goto 4, 3) := by decide +kernel
theorem dX3_leads_271 : decode cX3_leads 271 = .ok (.iconst 0, 1) := by decide +kernel
theorem dX3_leads_272 : decode cX3_leads 272 = .ok (.ireturn, 1) := by decide +kernel
theorem dX3_leads_273 : decode cX3_leads 273 = .ok (.iload_n 3, 1) := by decide +kernel
theorem dX3_leads_274 : decode cX3_leads 274 = .ok (.bipush 21, 2) := by decide +kernel
theorem dX3_leads_276 : decode cX3_leads 276 = .ok (.if_icmp .ne 7, 3) := by decide +kernel
theorem dX3_leads_279 : decode cX3_leads 279 = .ok (.iconst 1, 1) := by decide +kernel
theorem dX3_leads_280 : decode cX3_leads 280 = .ok (.goto 4, 3) := by decide +kernel
theorem dX3_leads_283 : decode cX3_leads 283 = .ok (.iconst 0, 1) := by decide +kernel
theorem dX3_leads_284 : decode cX3_leads 284 = .ok (.ireturn, 1) := by decide +kernel
set_option maxRecDepth 20000 in
theorem ggX3_isAllowed_X3_in : GoodIn wsX3_isAllowed wsX3_in := goodIn_r _ [4] (by decide +kernel) (by decide +kernel)
set_option maxRecDepth 20000 in
theorem gX3_isAllowed_X3_in : GoodIn wsX3_isAllowed (va_wsS RX3 47 yX3_in wsX3_in) := goodIn_app (goodIn_of _ (by decide +kernel)) ggX3_isAllowed_X3_in
set_option maxRecDepth 20000 in
theorem ggX3_isAllowed_X3_isNumber : GoodIn wsX3_isAllowed wsX3_isNumber := goodIn_r _ [7, 1, 2, 3, 4] (by decide +kernel) (by decide +kernel)
set_option maxRecDepth 20000 in
theorem gX3_isAllowed_X3_isNumber : GoodIn wsX3_isAllowed (va_wsS RX3 71 yX3_isNumber wsX3_isNumber) := goodIn_app (goodIn_of _ (by decide +kernel)) ggX3_isAllowed_X3_isNumber
theorem dX3_isAllowed_0 : decode cX3_isAllowed 0 = .ok (.iload_n 1, 1) := by decide +kernel
theorem dX3_isAllowed_1 : decode cX3_isAllowed 1 = .ok (.tableswitch 108 0 4 #[35, 52, 52, 73, 85], 35) := by decide +kernel
theorem dX3_isAllowed_36 : decode cX3_isAllowed 36 = .ok (.iload_n 0, 1) := by decide +kernel
theorem dX3_isAllowed_37 : decode cX3_isAllowed 37 = .ok (.iconst 3, 1) := by decide +kernel
theorem dX3_isAllowed_38 : decode cX3_isAllowed 38 = .ok (.if_icmp .lt 9, 3) := by decide +kernel
theorem dX3_isAllowed_41 : decode cX3_isAllowed 41 = .ok (.iload_n 0, 1) := by decide +kernel
theorem dX3_isAllowed_42 : decode cX3_isAllowed 42 = .ok (.bipush 9, 2) := by decide +kernel
theorem dX3_isAllowed_44 : decode cX3_isAllowed 44 = .ok (.if_icmp .ne 7, 3) := by decide +kernel
theorem dX3_isAllowed_47 : decode cX3_isAllowed 47 = .ok (.iconst 1, 1) := by decide +kernel
theorem dX3_isAllowed_48 : decode cX3_isAllowed 48 = .ok (.goto 4, 3) := by decide +kernel
theorem dX3_isAllowed_51 : decode cX3_isAllowed 51 = .ok (.iconst 0, 1) := by decide +kernel
theorem dX3_isAllowed_52 : decode cX3_isAllowed 52 = .ok (.ireturn, 1) := by decide +kernel
theorem dX3_isAllowed_53 : decode cX3_isAllowed 53 = .ok (.iload_n 0, 1) := by decide +kernel
theorem dX3_isAllowed_54 : decode cX3_isAllowed 54 = .ok (.iconst 3, 1) := by decide +kernel
theorem dX3_isAllowed_55 : decode cX3_isAllowed 55 = .ok (.if_icmp .lt 13, 3) := by decide +kernel
theorem dX3_isAllowed_58 : decode cX3_isAllowed 58 = .ok (.iload_n 0, 1) := by decide +kernel
theorem dX3_isAllowed_59 : decode cX3_isAllowed 59 = .ok (.iconst 5, 1) := by decide +kernel
theorem dX3_isAllowed_60 : decode cX3_isAllowed 60 = .ok (.bipush 9, 2) := by decide +kernel
theorem dX3_isAllowed_62 : decode cX3_isAllowed 62 = .ok (.invokestatic 47, 3) := by decide +kernel
theorem dX3_isAllowed_65 : decode cX3_isAllowed 65 = .ok (.ifCond .eq 7, 3) := by decide +kernel
theorem dX3_isAllowed_68 : decode cX3_isAllowed 68 = .ok (.iconst 1, 1) := by decide +kernel
theorem dX3_isAllowed_69 : decode cX3_isAllowed 69 = .ok (.goto 4, 3) := by decide +kernel
theorem dX3_isAllowed_72 : decode cX3_isAllowed 72 = .ok (.iconst 0, 1) := by decide +kernel
theorem dX3_isAllowed_73 : decode cX3_isAllowed 73 = .ok (.ireturn, 1) := by decide +kernel
theorem dX3_isAllowed_74 : decode cX3_isAllowed 74 = .ok (.iload_n 0, 1) := by decide +kernel
theorem dX3_isAllowed_75 : decode cX3_isAllowed 75 = .ok (.bipush 12, 2) := by decide +kernel
theorem dX3_isAllowed_77 : decode cX3_isAllowed 77 = .ok (.if_icmp .ge 7, 3) := by decide +kernel
theorem dX3_isAllowed_80 : decode cX3_isAllowed 80 = .ok (.iconst 1, 1) := by decide +kernel
theorem dX3_isAllowed_81 : decode cX3_isAllowed 81 = .ok (.goto 4, 3) := by decide +kernel
theorem dX3_isAllowed_84 : decode cX3_isAllowed 84 = .ok (.iconst 0, 1) := by decide +kernel
theorem dX3_isAllowed_85 : decode cX3_isAllowed 85 = .ok (.ireturn, 1) := by decide +kernel
theorem dX3_isAllowed_86 : decode cX3_isAllowed 86 = .ok (.iload_n 2, 1) := by decide +kernel
theorem dX3_isAllowed_87 : decode cX3_isAllowed 87 = .ok (.bipush 21, 2) := by decide +kernel
theorem dX3_isAllowed_89 : decode cX3_isAllowed 89 = .ok (.if_icmp .ne 18, 3) := by decide +kernel
theorem dX3_isAllowed_92 : decode cX3_isAllowed 92 = .ok (.iload_n 0, 1) := by decide +kernel
theorem dX3_isAllowed_93 : decode cX3_isAllowed 93 = .ok (.iconst 1, 1) := by decide +kernel
theorem dX3_isAllowed_94 : decode cX3_isAllowed 94 = .ok (.if_icmp .eq 9, 3) := by decide +kernel
theorem dX3_isAllowed_97 : decode cX3_isAllowed 97 = .ok (.iload_n 0, 1) := by decide +kernel
theorem dX3_isAllowed_98 : decode cX3_isAllowed 98 = .ok (.bipush 12, 2) := by decide +kernel
theorem dX3_isAllowed_100 : decode cX3_isAllowed 100 = .ok (.if_icmp .ne 7, 3) := by decide +kernel
theorem dX3_isAllowed_103 : decode cX3_isAllowed 103 = .ok (.iconst 1, 1) := by decide +kernel
theorem dX3_isAllowed_104 : decode cX3_isAllowed 104 = .ok (.goto 4, 3) := by decide +kernel
theorem dX3_isAllowed_107 : decode cX3_isAllowed 107 = .ok (.iconst 0, 1) := by decide +kernel
theorem dX3_isAllowed_108 : decode cX3_isAllowed 108 = .ok (.ireturn, 1) := by decide +kernel
theorem dX3_isAllowed_109 : decode cX3_isAllowed 109 = .ok (.iload_n 2, 1) := by decide +kernel
theorem dX3_isAllowed_110 : decode cX3_isAllowed 110 = .ok (.invokestatic 71, 3) := by decide +kernel
theorem dX3_isAllowed_113 : decode cX3_isAllowed 113 = .ok (.ifCond .eq 24, 3) := by decide +kernel
theorem dX3_isAllowed_116 : decode cX3_isAllowed 116 = .ok (.iload_n 0, 1) := by decide +kernel
theorem dX3_isAllowed_117 : decode cX3_isAllowed 117 = .ok (.iconst 3, 1) := by decide +kernel
theorem dX3_isAllowed_118 : decode cX3_isAllowed 118 = .ok (.if_icmp .lt 15, 3) := by decide +kernel
theorem dX3_isAllowed_121 : decode cX3_isAllowed 121 = .ok (.iload_n 0, 1) := by decide +kernel
theorem dX3_isAllowed_122 : decode cX3_isAllowed 122 = .ok (.bipush 7, 2) := by decide +kernel
theorem dX3_isAllowed_124 : decode cX3_isAllowed 124 = .ok (.if_icmp .eq 9, 3) := by decide +kernel
theorem dX3_isAllowed_127 : decode cX3_isAllowed 127 = .ok (.iload_n 0, 1) := by decide +kernel
theorem dX3_isAllowed_128 : decode cX3_isAllowed 128 = .ok (.bipush 8, 2) := by decide +kernel
theorem dX3_isAllowed_130 : decode cX3_isAllowed 130 = .ok (.if_icmp .ne 7, 3) := by decide +kernel
theorem dX3_isAllowed_133 : decode cX3_isAllowed 133 = .ok (.iconst 1, 1) := by decide +kernel
theorem dX3_isAllowed_134 : decode cX3_isAllowed 134 = .ok (.goto 4, 3) := by decide +kernel
theorem dX3_isAllowed_137 : decode cX3_isAllowed 137 = .ok (.iconst 0, 1) := by decide +kernel
theorem dX3_isAllowed_138 : decode cX3_isAllowed 138 = .ok (.ireturn, 1) := by decide +kernel
set_option maxRecDepth 20000 in
theorem ggX3_kindOf_X3_isAllowed : GoodIn wsX3_kindOf wsX3_isAllowed := goodIn_r _ [4, 5, 6, 3, 7, 8, 9, 10] (by decide +kernel) (by decide +kernel)
set_option maxRecDepth 20000 in
theorem gX3_kindOf_X3_isAllowed : GoodIn wsX3_kindOf (va_wsS RX3 80 yX3_isAllowed wsX3_isAllowed) := goodIn_app (goodIn_of _ (by decide +kernel)) ggX3_kindOf_X3_isAllowed
set_option maxRecDepth 20000 in
theorem ggX3_kindOf_X3_leads : GoodIn wsX3_kindOf wsX3_leads := goodIn_ca (goodIn_r _ [14, 15, 16, 3, 17, 5, 6, 7, 8, 9, 10, 18, 19, 20, 21, 22, 23, 24, 25, 26, 27, 28, 29, 30, 31, 32, 33, 34, 35, 36, 37, 38, 39, 40, 41, 42, 43, 44, 45, 46] (by decide +kernel) (by decide +kernel)) (goodIn_sub (fun _ h => List.mem_cons_of_mem _ (List.mem_append_right _ h)) (by decide +kernel))
set_option maxRecDepth 20000 in
theorem gX3_kindOf_X3_leads : GoodIn wsX3_kindOf (wsV RX3 83 RX3 yX3_leads wsX3_leads) := goodIn_app (goodIn_of _ (by decide +kernel)) ggX3_kindOf_X3_leads
theorem dX3_kindOf_0 : decode cX3_kindOf 0 = .ok (.iconst 1, 1) := by decide +kernel
theorem dX3_kindOf_1 : decode cX3_kindOf 1 = .ok (.istore 4, 2) := by decide +kernel
theorem dX3_kindOf_3 : decode cX3_kindOf 3 = .ok (.iload 4, 2) := by decide +kernel
theorem dX3_kindOf_5 : decode cX3_kindOf 5 = .ok (.bipush 13, 2) := by decide +kernel
theorem dX3_kindOf_7 : decode cX3_kindOf 7 = .ok (.if_icmp .ge 33, 3) := by decide +kernel
theorem dX3_kindOf_10 : decode cX3_kindOf 10 = .ok (.iload 4, 2) := by decide +kernel
theorem dX3_kindOf_12 : decode cX3_kindOf 12 = .ok (.iload_n 3, 1) := by decide +kernel
theorem dX3_kindOf_13 : decode cX3_kindOf 13 = .ok (.iload_n 2, 1) := by decide +kernel
theorem dX3_kindOf_14 : decode cX3_kindOf 14 = .ok (.invokestatic 80, 3) := by decide +kernel
theorem dX3_kindOf_17 : decode cX3_kindOf 17 = .ok (.ifCond .eq 17, 3) := by decide +kernel
theorem dX3_kindOf_20 : decode cX3_kindOf 20 = .ok (.aload_n 0, 1) := by decide +kernel
theorem dX3_kindOf_21 : decode cX3_kindOf 21 = .ok (.iload 4, 2) := by decide +kernel
theorem dX3_kindOf_23 : decode cX3_kindOf 23 = .ok (.iload_n 1, 1) := by decide +kernel
theorem dX3_kindOf_24 : decode cX3_kindOf 24 = .ok (.iload_n 2, 1) := by decide +kernel
theorem dX3_kindOf_25 : decode cX3_kindOf 25 = .ok (.invokevirtual 83, 3) := by decide +kernel
theorem dX3_kindOf_28 : decode cX3_kindOf 28 = .ok (.ifCond .eq 6, 3) := by decide +kernel
theorem dX3_kindOf_31 : decode cX3_kindOf 31 = .ok (.iload 4, 2) := by decide +kernel
theorem dX3_kindOf_33 : decode cX3_kindOf 33 = .ok (.ireturn, 1) := by decide +kernel
theorem dX3_kindOf_34 : decode cX3_kindOf 34 = .ok (.iinc 4 1, 3) := by decide +kernel
theorem dX3_kindOf_37 : decode cX3_kindOf 37 = .ok (.goto (-34), 3) := by decide +kernel
theorem dX3_kindOf_40 : decode cX3_kindOf 40 = .ok (.iconst 0, 1) := by decide +kernel
theorem dX3_kindOf_41 : decode cX3_kindOf 41 = .ok (.ireturn, 1) := by decide +kernel
set_option maxRecDepth 20000 in
theorem ggX3_kind_X3_isType : GoodIn wsX3_kind wsX3_isType := goodIn_r _ [6, 7, 8, 9, 5, 10, 47, 48, 49, 50, 51, 52, 53, 54, 55, 56] (by decide +kernel) (by decide +kernel)
set_option maxRecDepth 20000 in
theorem gX3_kind_X3_isType : GoodIn wsX3_kind (wsV RX3 59 RX3 yX3_isType wsX3_isType) := goodIn_app (goodIn_of _ (by decide +kernel)) ggX3_kind_X3_isType
set_option maxRecDepth 20000 in
theorem ggX3_kind_X3_in : GoodIn wsX3_kind wsX3_in := goodIn_r _ [10] (by decide +kernel) (by decide +kernel)
set_option maxRecDepth 20000 in
theorem gX3_kind_X3_in : GoodIn wsX3_kind (va_wsS RX3 47 yX3_in wsX3_in) := goodIn_app (goodIn_of _ (by decide +kernel)) ggX3_kind_X3_in
set_option maxRecDepth 20000 in
theorem ggX3_kind_X3_kindOf : GoodIn wsX3_kind wsX3_kindOf := goodIn_ca (goodIn_r _ [14, 15, 16, 5, 17, 8, 9, 10, 18, 19, 20, 21, 22, 23, 24, 25, 26, 27, 28, 29, 30, 31, 32, 33, 34, 35, 36, 37, 38, 39, 40, 41, 42, 43, 44, 45, 46, 47, 48, 49, 50, 51, 52, 53, 54, 55, 56] (by decide +kernel) (by decide +kernel)) (goodIn_sub (fun _ h => List.mem_cons_of_mem _ (List.mem_append_right _ h)) (by decide +kernel))
set_option maxRecDepth 20000 in
theorem gX3_kind_X3_kindOf : GoodIn wsX3_kind (wsV RX3 86 RX3 yX3_kindOf wsX3_kindOf) := goodIn_app (goodIn_of _ (by decide +kernel)) ggX3_kind_X3_kindOf
theorem dX3_kind_0 : decode cX3_kind 0 = .ok (.aload_n 0, 1) := by decide +kernel
theorem dX3_kind_1 : decode cX3_kind 1 = .ok (.iconst 0, 1) := by decide +kernel
theorem dX3_kind_2 : decode cX3_kind 2 = .ok (.putfield 40, 3) := by decide +kernel
theorem dX3_kind_5 : decode cX3_kind 5 = .ok (.aload_n 0, 1) := by decide +kernel
theorem dX3_kind_6 : decode cX3_kind 6 = .ok (.iload_n 1, 1) := by decide +kernel
theorem dX3_kind_7 : decode cX3_kind 7 = .ok (.invokevirtual 59, 3) := by decide +kernel
theorem dX3_kind_10 : decode cX3_kind 10 = .ok (.ifCond .eq 20, 3) := by decide +kernel
theorem dX3_kind_13 : decode cX3_kind 13 = .ok (.aload_n 0, 1) := by decide +kernel
theorem dX3_kind_14 : decode cX3_kind 14 = .ok (.iload_n 2, 1) := by decide +kernel
theorem dX3_kind_15 : decode cX3_kind 15 = .ok (.invokevirtual 59, 3) := by decide +kernel
theorem dX3_kind_18 : decode cX3_kind 18 = .ok (.ifCond .eq 12, 3) := by decide +kernel
theorem dX3_kind_21 : decode cX3_kind 21 = .ok (.iload_n 3, 1) := by decide +kernel
theorem dX3_kind_22 : decode cX3_kind 22 = .ok (.iconst 0, 1) := by decide +kernel
theorem dX3_kind_23 : decode cX3_kind 23 = .ok (.iconst 5, 1) := by decide +kernel
theorem dX3_kind_24 : decode cX3_kind 24 = .ok (.invokestatic 47, 3) := by decide +kernel
theorem dX3_kind_27 : decode cX3_kind 27 = .ok (.ifCond .ne 5, 3) := by decide +kernel
theorem dX3_kind_30 : decode cX3_kind 30 = .ok (.iconst (-1), 1) := by decide +kernel
theorem dX3_kind_31 : decode cX3_kind 31 = .ok (.ireturn, 1) := by decide +kernel
theorem dX3_kind_32 : decode cX3_kind 32 = .ok (.aload_n 0, 1) := by decide +kernel
theorem dX3_kind_33 : decode cX3_kind 33 = .ok (.iload_n 1, 1) := by decide +kernel
theorem dX3_kind_34 : decode cX3_kind 34 = .ok (.iload_n 2, 1) := by decide +kernel
theorem dX3_kind_35 : decode cX3_kind 35 = .ok (.iload_n 3, 1) := by decide +kernel
theorem dX3_kind_36 : decode cX3_kind 36 = .ok (.invokevirtual 86, 3) := by decide +kernel
theorem dX3_kind_39 : decode cX3_kind 39 = .ok (.ireturn, 1) := by decide +kernel
theorem dX3_has_0 : decode cX3_has 0 = .ok (.iload_n 0, 1) := by decide +kernel
theorem dX3_has_1 : decode cX3_has 1 = .ok (.tableswitch 117 1 4 #[31, 51, 73, 95], 31) := by decide +kernel
theorem dX3_has_32 : decode cX3_has 32 = .ok (.lload_n 1, 1) := by decide +kernel
theorem dX3_has_33 : decode cX3_has 33 = .ok (.lconst 0, 1) := by decide +kernel
theorem dX3_has_34 : decode cX3_has 34 = .ok (.lcmp, 1) := by decide +kernel
theorem dX3_has_35 : decode cX3_has 35 = .ok (.ifCond .lt 15, 3) := by decide +kernel
theorem dX3_has_38 : decode cX3_has 38 = .ok (.lload_n 1, 1) := by decide +kernel
theorem dX3_has_39 : decode cX3_has 39 = .ok (.ldc2_w 90, 3) := by decide +kernel
theorem dX3_has_42 : decode cX3_has 42 = .ok (.lcmp, 1) := by decide +kernel
theorem dX3_has_43 : decode cX3_has 43 = .ok (.ifCond .gt 7, 3) := by decide +kernel
theorem dX3_has_46 : decode cX3_has 46 = .ok (.iconst 1, 1) := by decide +kernel
theorem dX3_has_47 : decode cX3_has 47 = .ok (.goto 4, 3) := by decide +kernel
theorem dX3_has_50 : decode cX3_has 50 = .ok (.iconst 0, 1) := by decide +kernel
theorem dX3_has_51 : decode cX3_has 51 = .ok (.ireturn, 1) := by decide +kernel
theorem dX3_has_52 : decode cX3_has 52 = .ok (.lload_n 1, 1) := by decide +kernel
theorem dX3_has_53 : decode cX3_has 53 = .ok (.ldc2_w 92, 3) := by decide +kernel
theorem dX3_has_56 : decode cX3_has 56 = .ok (.lcmp, 1) := by decide +kernel
theorem dX3_has_57 : decode cX3_has 57 = .ok (.ifCond .lt 15, 3) := by decide +kernel
theorem dX3_has_60 : decode cX3_has 60 = .ok (.lload_n 1, 1) := by decide +kernel
theorem dX3_has_61 : decode cX3_has 61 = .ok (.ldc2_w 94, 3) := by decide +kernel
theorem dX3_has_64 : decode cX3_has 64 = .ok (.lcmp, 1) := by decide +kernel
theorem dX3_has_65 : decode cX3_has 65 = .ok (.ifCond .gt 7, 3) := by decide +kernel
theorem dX3_has_68 : decode cX3_has 68 = .ok (.iconst 1, 1) := by decide +kernel
theorem dX3_has_69 : decode cX3_has 69 = .ok (.goto 4, 3) := by decide +kernel
theorem dX3_has_72 : decode cX3_has 72 = .ok (.iconst 0, 1) := by decide +kernel
theorem dX3_has_73 : decode cX3_has 73 = .ok (.ireturn, 1) := by decide +kernel
theorem dX3_has_74 : decode cX3_has 74 = .ok (.lload_n 1, 1) := by decide +kernel
theorem dX3_has_75 : decode cX3_has 75 = .ok (.ldc2_w 96, 3) := by decide +kernel
theorem dX3_has_78 : decode cX3_has 78 = .ok (.lcmp, 1) := by decide +kernel
theorem dX3_has_79 : decode cX3_has 79 = .ok (.ifCond .lt 15, 3) := by decide +kernel
theorem dX3_has_82 : decode cX3_has 82 = .ok (.lload_n 1, 1) := by decide +kernel
theorem dX3_has_83 : decode cX3_has 83 = .ok (.ldc2_w 98, 3) := by decide +kernel
theorem dX3_has_86 : decode cX3_has 86 = .ok (.lcmp, 1) := by decide +kernel
theorem dX3_has_87 : decode cX3_has 87 = .ok (.ifCond .gt 7, 3) := by decide +kernel
theorem dX3_has_90 : decode cX3_has 90 = .ok (.iconst 1, 1) := by decide +kernel
theorem dX3_has_91 : decode cX3_has 91 = .ok (.goto 4, 3) := by decide +kernel
theorem dX3_has_94 : decode cX3_has 94 = .ok (.iconst 0, 1) := by decide +kernel
theorem dX3_has_95 : decode cX3_has 95 = .ok (.ireturn, 1) := by decide +kernel
theorem dX3_has_96 : decode cX3_has 96 = .ok (.lload_n 1, 1) := by decide +kernel
theorem dX3_has_97 : decode cX3_has 97 = .ok (.ldc2_w 100, 3) := by decide +kernel
theorem dX3_has_100 : decode cX3_has 100 = .ok (.lcmp, 1) := by decide +kernel
theorem dX3_has_101 : decode cX3_has 101 = .ok (.ifCond .lt 15, 3) := by decide +kernel
theorem dX3_has_104 : decode cX3_has 104 = .ok (.lload_n 1, 1) := by decide +kernel
theorem dX3_has_105 : decode cX3_has 105 = .ok (.ldc2_w 102, 3) := by decide +kernel
theorem dX3_has_108 : decode cX3_has 108 = .ok (.lcmp, 1) := by decide +kernel
theorem dX3_has_109 : decode cX3_has 109 = .ok (.ifCond .gt 7, 3) := by decide +kernel
theorem dX3_has_112 : decode cX3_has 112 = .ok (.iconst 1, 1) := by decide +kernel
theorem dX3_has_113 : decode cX3_has 113 = .ok (.goto 4, 3) := by decide +kernel
theorem dX3_has_116 : decode cX3_has 116 = .ok (.iconst 0, 1) := by decide +kernel
theorem dX3_has_117 : decode cX3_has 117 = .ok (.ireturn, 1) := by decide +kernel
theorem dX3_has_118 : decode cX3_has 118 = .ok (.iconst 1, 1) := by decide +kernel
theorem dX3_has_119 : decode cX3_has 119 = .ok (.ireturn, 1) := by decide +kernel
set_option maxRecDepth 20000 in
theorem ggX3_given_X3_isType : GoodIn wsX3_given wsX3_isType := goodIn_r _ [6, 7, 8, 9, 5, 10, 57, 58, 59, 60, 61, 62, 63, 64, 65, 66] (by decide +kernel) (by decide +kernel)
set_option maxRecDepth 20000 in
theorem gX3_given_X3_isType : GoodIn wsX3_given (wsV RX3 59 RX3 yX3_isType wsX3_isType) := goodIn_app (goodIn_of _ (by decide +kernel)) ggX3_given_X3_isType
set_option maxRecDepth 20000 in
theorem ggX3_given_X3_in : GoodIn wsX3_given wsX3_in := goodIn_r _ [10] (by decide +kernel) (by decide +kernel)
set_option maxRecDepth 20000 in
theorem gX3_given_X3_in : GoodIn wsX3_given (va_wsS RX3 47 yX3_in wsX3_in) := goodIn_app (goodIn_of _ (by decide +kernel)) ggX3_given_X3_in
set_option maxRecDepth 20000 in
theorem ggX3_given_X3_has : GoodIn wsX3_given wsX3_has := goodIn_r _ [13, 14, 15, 16, 17, 18, 19, 20] (by decide +kernel) (by decide +kernel)
set_option maxRecDepth 20000 in
theorem gX3_given_X3_has : GoodIn wsX3_given (va_wsS RX3 104 yX3_has wsX3_has) := goodIn_app (goodIn_of _ (by decide +kernel)) ggX3_given_X3_has
set_option maxRecDepth 20000 in
theorem ggX3_given_X3_isBox : GoodIn wsX3_given wsX3_isBox := goodIn_r _ [23, 8, 9, 5, 10] (by decide +kernel) (by decide +kernel)
set_option maxRecDepth 20000 in
theorem gX3_given_X3_isBox : GoodIn wsX3_given (va_wsS RX3 74 yX3_isBox wsX3_isBox) := goodIn_app (goodIn_of _ (by decide +kernel)) ggX3_given_X3_isBox
set_option maxRecDepth 20000 in
theorem ggX3_given_X3_kindOf : GoodIn wsX3_given wsX3_kindOf := goodIn_ca (goodIn_r _ [27, 28, 29, 5, 30, 8, 9, 10, 31, 32, 33, 34, 35, 36, 37, 38, 39, 40, 41, 42, 43, 44, 45, 46, 47, 48, 49, 21, 22, 23, 50, 51, 52, 53, 54, 55, 56, 57, 58, 59, 60, 61, 62, 63, 64, 65, 66] (by decide +kernel) (by decide +kernel)) (goodIn_sub (fun _ h => List.mem_cons_of_mem _ (List.mem_append_right _ h)) (by decide +kernel))
set_option maxRecDepth 20000 in
theorem gX3_given_X3_kindOf : GoodIn wsX3_given (wsV RX3 86 RX3 yX3_kindOf wsX3_kindOf) := goodIn_app (goodIn_of _ (by decide +kernel)) ggX3_given_X3_kindOf
theorem dX3_given_0 : decode cX3_given 0 = .ok (.aload_n 0, 1) := by decide +kernel
theorem dX3_given_1 : decode cX3_given 1 = .ok (.iconst 0, 1) := by decide +kernel
theorem dX3_given_2 : decode cX3_given 2 = .ok (.putfield 40, 3) := by decide +kernel
theorem dX3_given_5 : decode cX3_given 5 = .ok (.aload_n 0, 1) := by decide +kernel
theorem dX3_given_6 : decode cX3_given 6 = .ok (.iload_n 3, 1) := by decide +kernel
theorem dX3_given_7 : decode cX3_given 7 = .ok (.invokevirtual 59, 3) := by decide +kernel
theorem dX3_given_10 : decode cX3_given 10 = .ok (.ifCond .eq 12, 3) := by decide +kernel
theorem dX3_given_13 : decode cX3_given 13 = .ok (.aload_n 0, 1) := by decide +kernel
theorem dX3_given_14 : decode cX3_given 14 = .ok (.iload 4, 2) := by decide +kernel
theorem dX3_given_16 : decode cX3_given 16 = .ok (.invokevirtual 59, 3) := by decide +kernel
theorem dX3_given_19 : decode cX3_given 19 = .ok (.ifCond .ne 5, 3) := by decide +kernel
theorem dX3_given_22 : decode cX3_given 22 = .ok (.iconst (-1), 1) := by decide +kernel
theorem dX3_given_23 : decode cX3_given 23 = .ok (.ireturn, 1) := by decide +kernel
theorem dX3_given_24 : decode cX3_given 24 = .ok (.iload_n 3, 1) := by decide +kernel
theorem dX3_given_25 : decode cX3_given 25 = .ok (.iconst 1, 1) := by decide +kernel
theorem dX3_given_26 : decode cX3_given 26 = .ok (.iconst 5, 1) := by decide +kernel
theorem dX3_given_27 : decode cX3_given 27 = .ok (.invokestatic 47, 3) := by decide +kernel
theorem dX3_given_30 : decode cX3_given 30 = .ok (.ifCond .eq 11, 3) := by decide +kernel
theorem dX3_given_33 : decode cX3_given 33 = .ok (.iload_n 3, 1) := by decide +kernel
theorem dX3_given_34 : decode cX3_given 34 = .ok (.lload_n 1, 1) := by decide +kernel
theorem dX3_given_35 : decode cX3_given 35 = .ok (.invokestatic 104, 3) := by decide +kernel
theorem dX3_given_38 : decode cX3_given 38 = .ok (.ifCond .ne 6, 3) := by decide +kernel
theorem dX3_given_41 : decode cX3_given 41 = .ok (.bipush (-2), 2) := by decide +kernel
theorem dX3_given_43 : decode cX3_given 43 = .ok (.ireturn, 1) := by decide +kernel
theorem dX3_given_44 : decode cX3_given 44 = .ok (.iload 4, 2) := by decide +kernel
theorem dX3_given_46 : decode cX3_given 46 = .ok (.invokestatic 74, 3) := by decide +kernel
theorem dX3_given_49 : decode cX3_given 49 = .ok (.ifCond .eq 11, 3) := by decide +kernel
theorem dX3_given_52 : decode cX3_given 52 = .ok (.iload 4, 2) := by decide +kernel
theorem dX3_given_54 : decode cX3_given 54 = .ok (.bipush 8, 2) := by decide +kernel
theorem dX3_given_56 : decode cX3_given 56 = .ok (.isub, 1) := by decide +kernel
theorem dX3_given_57 : decode cX3_given 57 = .ok (.goto 5, 3) := by decide +kernel
theorem dX3_given_60 : decode cX3_given 60 = .ok (.iload 4, 2) := by decide +kernel
theorem dX3_given_62 : decode cX3_given 62 = .ok (.istore 5, 2) := by decide +kernel
theorem dX3_given_64 : decode cX3_given 64 = .ok (.iload_n 3, 1) := by decide +kernel
theorem dX3_given_65 : decode cX3_given 65 = .ok (.iconst 5, 1) := by decide +kernel
theorem dX3_given_66 : decode cX3_given 66 = .ok (.if_icmp .ge 26, 3) := by decide +kernel
theorem dX3_given_69 : decode cX3_given 69 = .ok (.iload 5, 2) := by decide +kernel
theorem dX3_given_71 : decode cX3_given 71 = .ok (.iconst 1, 1) := by decide +kernel
theorem dX3_given_72 : decode cX3_given 72 = .ok (.iconst 3, 1) := by decide +kernel
theorem dX3_given_73 : decode cX3_given 73 = .ok (.invokestatic 47, 3) := by decide +kernel
theorem dX3_given_76 : decode cX3_given 76 = .ok (.ifCond .eq 16, 3) := by decide +kernel
theorem dX3_given_79 : decode cX3_given 79 = .ok (.iload 5, 2) := by decide +kernel
theorem dX3_given_81 : decode cX3_given 81 = .ok (.lload_n 1, 1) := by decide +kernel
theorem dX3_given_82 : decode cX3_given 82 = .ok (.invokestatic 104, 3) := by decide +kernel
theorem dX3_given_85 : decode cX3_given 85 = .ok (.ifCond .eq 7, 3) := by decide +kernel
theorem dX3_given_88 : decode cX3_given 88 = .ok (.iconst 1, 1) := by decide +kernel
theorem dX3_given_89 : decode cX3_given 89 = .ok (.goto 4, 3) := by decide +kernel
theorem dX3_given_92 : decode cX3_given 92 = .ok (.iconst 0, 1) := by decide +kernel
theorem dX3_given_93 : decode cX3_given 93 = .ok (.istore 6, 2) := by decide +kernel
theorem dX3_given_95 : decode cX3_given 95 = .ok (.iload 6, 2) := by decide +kernel
theorem dX3_given_97 : decode cX3_given 97 = .ok (.ifCond .ne 14, 3) := by decide +kernel
theorem dX3_given_100 : decode cX3_given 100 = .ok (.aload_n 0, 1) := by decide +kernel
theorem dX3_given_101 : decode cX3_given 101 = .ok (.iload_n 3, 1) := by decide +kernel
theorem dX3_given_102 : decode cX3_given 102 = .ok (.iload 4, 2) := by decide +kernel
theorem dX3_given_104 : decode cX3_given 104 = .ok (.iconst 2, 1) := by decide +kernel
theorem dX3_given_105 : decode cX3_given 105 = .ok (.invokevirtual 86, 3) := by decide +kernel
theorem dX3_given_108 : decode cX3_given 108 = .ok (.ifCond .le 7, 3) := by decide +kernel
theorem dX3_given_111 : decode cX3_given 111 = .ok (.iconst 1, 1) := by decide +kernel
theorem dX3_given_112 : decode cX3_given 112 = .ok (.goto 4, 3) := by decide +kernel
theorem dX3_given_115 : decode cX3_given 115 = .ok (.iconst 0, 1) := by decide +kernel
theorem dX3_given_116 : decode cX3_given 116 = .ok (.ireturn, 1) := by decide +kernel
set_option maxRecDepth 20000 in
theorem ggX3_targets_X3_isType : GoodIn wsX3_targets wsX3_isType := goodIn_r _ [7, 2, 8, 9, 6, 10, 47, 48, 49, 50, 51, 52, 53, 54, 55, 56] (by decide +kernel) (by decide +kernel)
set_option maxRecDepth 20000 in
theorem gX3_targets_X3_isType : GoodIn wsX3_targets (wsV RX3 59 RX3 yX3_isType wsX3_isType) := goodIn_app (goodIn_of _ (by decide +kernel)) ggX3_targets_X3_isType
set_option maxRecDepth 20000 in
theorem ggX3_targets_X3_in : GoodIn wsX3_targets wsX3_in := goodIn_r _ [10] (by decide +kernel) (by decide +kernel)
set_option maxRecDepth 20000 in
theorem gX3_targets_X3_in : GoodIn wsX3_targets (va_wsS RX3 47 yX3_in wsX3_in) := goodIn_app (goodIn_of _ (by decide +kernel)) ggX3_targets_X3_in
set_option maxRecDepth 20000 in
theorem ggX3_targets_X3_kindOf : GoodIn wsX3_targets wsX3_kindOf := goodIn_ca (goodIn_r _ [14, 15, 16, 6, 17, 8, 9, 10, 18, 19, 20, 21, 22, 23, 24, 25, 26, 27, 28, 29, 30, 31, 32, 33, 34, 35, 36, 37, 38, 39, 40, 41, 42, 43, 44, 45, 46, 47, 48, 49, 50, 51, 52, 53, 54, 55, 56] (by decide +kernel) (by decide +kernel)) (goodIn_sub (fun _ h => List.mem_cons_of_mem _ (List.mem_append_right _ h)) (by decide +kernel))
set_option maxRecDepth 20000 in
theorem gX3_targets_X3_kindOf : GoodIn wsX3_targets (wsV RX3 86 RX3 yX3_kindOf wsX3_kindOf) := goodIn_app (goodIn_of _ (by decide +kernel)) ggX3_targets_X3_kindOf
theorem dX3_targets_0 : decode cX3_targets 0 = .ok (.aload_n 0, 1) := by decide +kernel
theorem dX3_targets_1 : decode cX3_targets 1 = .ok (.iconst 0, 1) := by decide +kernel
theorem dX3_targets_2 : decode cX3_targets 2 = .ok (.putfield 40, 3) := by decide +kernel
theorem dX3_targets_5 : decode cX3_targets 5 = .ok (.aload_n 0, 1) := by decide +kernel
theorem dX3_targets_6 : decode cX3_targets 6 = .ok (.iload_n 1, 1) := by decide +kernel
theorem dX3_targets_7 : decode cX3_targets 7 = .ok (.invokevirtual 59, 3) := by decide +kernel
theorem dX3_targets_10 : decode cX3_targets 10 = .ok (.ifCond .eq 12, 3) := by decide +kernel
theorem dX3_targets_13 : decode cX3_targets 13 = .ok (.iload_n 2, 1) := by decide +kernel
theorem dX3_targets_14 : decode cX3_targets 14 = .ok (.iconst 0, 1) := by decide +kernel
theorem dX3_targets_15 : decode cX3_targets 15 = .ok (.iconst 5, 1) := by decide +kernel
theorem dX3_targets_16 : decode cX3_targets 16 = .ok (.invokestatic 47, 3) := by decide +kernel
theorem dX3_targets_19 : decode cX3_targets 19 = .ok (.ifCond .ne 5, 3) := by decide +kernel
theorem dX3_targets_22 : decode cX3_targets 22 = .ok (.iconst (-1), 1) := by decide +kernel
theorem dX3_targets_23 : decode cX3_targets 23 = .ok (.ireturn, 1) := by decide +kernel
theorem dX3_targets_24 : decode cX3_targets 24 = .ok (.iconst 0, 1) := by decide +kernel
theorem dX3_targets_25 : decode cX3_targets 25 = .ok (.istore_n 3, 1) := by decide +kernel
theorem dX3_targets_26 : decode cX3_targets 26 = .ok (.iconst 0, 1) := by decide +kernel
theorem dX3_targets_27 : decode cX3_targets 27 = .ok (.istore 4, 2) := by decide +kernel
theorem dX3_targets_29 : decode cX3_targets 29 = .ok (.iload 4, 2) := by decide +kernel
theorem dX3_targets_31 : decode cX3_targets 31 = .ok (.aload_n 0, 1) := by decide +kernel
theorem dX3_targets_32 : decode cX3_targets 32 = .ok (.getfield 44, 3) := by decide +kernel
theorem dX3_targets_35 : decode cX3_targets 35 = .ok (.if_icmp .ge 28, 3) := by decide +kernel
theorem dX3_targets_38 : decode cX3_targets 38 = .ok (.iload_n 3, 1) := by decide +kernel
theorem dX3_targets_39 : decode cX3_targets 39 = .ok (.aload_n 0, 1) := by decide +kernel
theorem dX3_targets_40 : decode cX3_targets 40 = .ok (.iload_n 1, 1) := by decide +kernel
theorem dX3_targets_41 : decode cX3_targets 41 = .ok (.iload 4, 2) := by decide +kernel
theorem dX3_targets_43 : decode cX3_targets 43 = .ok (.iload_n 2, 1) := by decide +kernel
theorem dX3_targets_44 : decode cX3_targets 44 = .ok (.invokevirtual 86, 3) := by decide +kernel
theorem dX3_targets_47 : decode cX3_targets 47 = .ok (.ifCond .le 7, 3) := by decide +kernel
theorem dX3_targets_50 : decode cX3_targets 50 = .ok (.iconst 1, 1) := by decide +kernel
theorem dX3_targets_51 : decode cX3_targets 51 = .ok (.goto 4, 3) := by decide +kernel
theorem dX3_targets_54 : decode cX3_targets 54 = .ok (.iconst 0, 1) := by decide +kernel
theorem dX3_targets_55 : decode cX3_targets 55 = .ok (.iadd, 1) := by decide +kernel
theorem dX3_targets_56 : decode cX3_targets 56 = .ok (.istore_n 3, 1) := by decide +kernel
theorem dX3_targets_57 : decode cX3_targets 57 = .ok (.iinc 4 1, 3) := by decide +kernel
theorem dX3_targets_60 : decode cX3_targets 60 = .ok (.goto (-31), 3) := by decide +kernel
theorem dX3_targets_63 : decode cX3_targets 63 = .ok (.iload_n 3, 1) := by decide +kernel
theorem dX3_targets_64 : decode cX3_targets 64 = .ok (.ireturn, 1) := by decide +kernel
set_option maxRecDepth 20000 in
theorem ggX3_isBits_X3_has : GoodIn wsX3_isBits wsX3_has := goodIn_r _ [4, 5, 6, 7, 8, 9, 10, 11] (by decide +kernel) (by decide +kernel)
set_option maxRecDepth 20000 in
theorem gX3_isBits_X3_has : GoodIn wsX3_isBits (va_wsS RX3 104 yX3_has wsX3_has) := goodIn_app (goodIn_of _ (by decide +kernel)) ggX3_isBits_X3_has
theorem dX3_isBits_0 : decode cX3_isBits 0 = .ok (.iload_n 0, 1) := by decide +kernel
theorem dX3_isBits_1 : decode cX3_isBits 1 = .ok (.lookupswitch 61 #[(0, 35), (6, 53), (7, 59)], 35) := by decide +kernel
theorem dX3_isBits_36 : decode cX3_isBits 36 = .ok (.lload_n 1, 1) := by decide +kernel
theorem dX3_isBits_37 : decode cX3_isBits 37 = .ok (.lconst 0, 1) := by decide +kernel
theorem dX3_isBits_38 : decode cX3_isBits 38 = .ok (.lcmp, 1) := by decide +kernel
theorem dX3_isBits_39 : decode cX3_isBits 39 = .ok (.ifCond .eq 9, 3) := by decide +kernel
theorem dX3_isBits_42 : decode cX3_isBits 42 = .ok (.lload_n 1, 1) := by decide +kernel
theorem dX3_isBits_43 : decode cX3_isBits 43 = .ok (.lconst 1, 1) := by decide +kernel
theorem dX3_isBits_44 : decode cX3_isBits 44 = .ok (.lcmp, 1) := by decide +kernel
theorem dX3_isBits_45 : decode cX3_isBits 45 = .ok (.ifCond .ne 7, 3) := by decide +kernel
theorem dX3_isBits_48 : decode cX3_isBits 48 = .ok (.iconst 1, 1) := by decide +kernel
theorem dX3_isBits_49 : decode cX3_isBits 49 = .ok (.goto 4, 3) := by decide +kernel
theorem dX3_isBits_52 : decode cX3_isBits 52 = .ok (.iconst 0, 1) := by decide +kernel
theorem dX3_isBits_53 : decode cX3_isBits 53 = .ok (.ireturn, 1) := by decide +kernel
theorem dX3_isBits_54 : decode cX3_isBits 54 = .ok (.iconst 4, 1) := by decide +kernel
theorem dX3_isBits_55 : decode cX3_isBits 55 = .ok (.lload_n 1, 1) := by decide +kernel
theorem dX3_isBits_56 : decode cX3_isBits 56 = .ok (.invokestatic 104, 3) := by decide +kernel
theorem dX3_isBits_59 : decode cX3_isBits 59 = .ok (.ireturn, 1) := by decide +kernel
theorem dX3_isBits_60 : decode cX3_isBits 60 = .ok (.iconst 1, 1) := by decide +kernel
theorem dX3_isBits_61 : decode cX3_isBits 61 = .ok (.ireturn, 1) := by decide +kernel
theorem dX3_isBits_62 : decode cX3_isBits 62 = .ok (.iload_n 0, 1) := by decide +kernel
theorem dX3_isBits_63 : decode cX3_isBits 63 = .ok (.lload_n 1, 1) := by decide +kernel
theorem dX3_isBits_64 : decode cX3_isBits 64 = .ok (.invokestatic 104, 3) := by decide +kernel
theorem dX3_isBits_67 : decode cX3_isBits 67 = .ok (.ireturn, 1) := by decide +kernel
theorem dX3_one_0 : decode cX3_one 0 = .ok (.iload_n 0, 1) := by decide +kernel
theorem dX3_one_1 : decode cX3_one 1 = .ok (.bipush 6, 2) := by decide +kernel
theorem dX3_one_3 : decode cX3_one 3 = .ok (.if_icmp .ne 19, 3) := by decide +kernel
theorem dX3_one_6 : decode cX3_one 6 = .ok (.lload_n 1, 1) := by decide +kernel
theorem dX3_one_7 : decode cX3_one 7 = .ok (.ldc2_w 102, 3) := by decide +kernel
theorem dX3_one_10 : decode cX3_one 10 = .ok (.land, 1) := by decide +kernel
theorem dX3_one_11 : decode cX3_one 11 = .ok (.ldc2_w 108, 3) := by decide +kernel
theorem dX3_one_14 : decode cX3_one 14 = .ok (.lcmp, 1) := by decide +kernel
theorem dX3_one_15 : decode cX3_one 15 = .ok (.ifCond .le 7, 3) := by decide +kernel
theorem dX3_one_18 : decode cX3_one 18 = .ok (.ldc2_w 110, 3) := by decide +kernel
theorem dX3_one_21 : decode cX3_one 21 = .ok (.lreturn, 1) := by decide +kernel
theorem dX3_one_22 : decode cX3_one 22 = .ok (.iload_n 0, 1) := by decide +kernel
theorem dX3_one_23 : decode cX3_one 23 = .ok (.bipush 7, 2) := by decide +kernel
theorem dX3_one_25 : decode cX3_one 25 = .ok (.if_icmp .ne 21, 3) := by decide +kernel
theorem dX3_one_28 : decode cX3_one 28 = .ok (.lload_n 1, 1) := by decide +kernel
theorem dX3_one_29 : decode cX3_one 29 = .ok (.ldc2_w 112, 3) := by decide +kernel
theorem dX3_one_32 : decode cX3_one 32 = .ok (.land, 1) := by decide +kernel
theorem dX3_one_33 : decode cX3_one 33 = .ok (.ldc2_w 114, 3) := by decide +kernel
theorem dX3_one_36 : decode cX3_one 36 = .ok (.lcmp, 1) := by decide +kernel
theorem dX3_one_37 : decode cX3_one 37 = .ok (.ifCond .le 9, 3) := by decide +kernel
theorem dX3_one_40 : decode cX3_one 40 = .ok (.ldc2_w 116, 3) := by decide +kernel
theorem dX3_one_43 : decode cX3_one 43 = .ok (.goto 4, 3) := by decide +kernel
theorem dX3_one_46 : decode cX3_one 46 = .ok (.lload_n 1, 1) := by decide +kernel
theorem dX3_one_47 : decode cX3_one 47 = .ok (.lreturn, 1) := by decide +kernel
theorem dX3_real_0 : decode cX3_real 0 = .ok (.lload_n 0, 1) := by decide +kernel
theorem dX3_real_1 : decode cX3_real 1 = .ok (.lconst 0, 1) := by decide +kernel
theorem dX3_real_2 : decode cX3_real 2 = .ok (.lcmp, 1) := by decide +kernel
theorem dX3_real_3 : decode cX3_real 3 = .ok (.ifCond .ne 5, 3) := by decide +kernel
theorem dX3_real_6 : decode cX3_real 6 = .ok (.lconst 0, 1) := by decide +kernel
theorem dX3_real_7 : decode cX3_real 7 = .ok (.lreturn, 1) := by decide +kernel
theorem dX3_real_8 : decode cX3_real 8 = .ok (.lload_n 0, 1) := by decide +kernel
theorem dX3_real_9 : decode cX3_real 9 = .ok (.lconst 0, 1) := by decide +kernel
theorem dX3_real_10 : decode cX3_real 10 = .ok (.lcmp, 1) := by decide +kernel
theorem dX3_real_11 : decode cX3_real 11 = .ok (.ifCond .ge 8, 3) := by decide +kernel
theorem dX3_real_14 : decode cX3_real 14 = .ok (.lload_n 0, 1) := by decide +kernel
theorem dX3_real_15 : decode cX3_real 15 = .ok (.lneg, 1) := by decide +kernel
theorem dX3_real_16 : decode cX3_real 16 = .ok (.goto 4, 3) := by decide +kernel
theorem dX3_real_19 : decode cX3_real 19 = .ok (.lload_n 0, 1) := by decide +kernel
theorem dX3_real_20 : decode cX3_real 20 = .ok (.lstore 6, 2) := by decide +kernel
theorem dX3_real_22 : decode cX3_real 22 = .ok (.iconst 0, 1) := by decide +kernel
theorem dX3_real_23 : decode cX3_real 23 = .ok (.istore 8, 2) := by decide +kernel
theorem dX3_real_25 : decode cX3_real 25 = .ok (.lload 6, 2) := by decide +kernel
theorem dX3_real_27 : decode cX3_real 27 = .ok (.lstore 9, 2) := by decide +kernel
theorem dX3_real_29 : decode cX3_real 29 = .ok (.lload 9, 2) := by decide +kernel
theorem dX3_real_31 : decode cX3_real 31 = .ok (.lconst 0, 1) := by decide +kernel
theorem dX3_real_32 : decode cX3_real 32 = .ok (.lcmp, 1) := by decide +kernel
theorem dX3_real_33 : decode cX3_real 33 = .ok (.ifCond .eq 15, 3) := by decide +kernel
theorem dX3_real_36 : decode cX3_real 36 = .ok (.iinc 8 1, 3) := by decide +kernel
theorem dX3_real_39 : decode cX3_real 39 = .ok (.lload 9, 2) := by decide +kernel
theorem dX3_real_41 : decode cX3_real 41 = .ok (.iconst 1, 1) := by decide +kernel
theorem dX3_real_42 : decode cX3_real 42 = .ok (.lushr, 1) := by decide +kernel
theorem dX3_real_43 : decode cX3_real 43 = .ok (.lstore 9, 2) := by decide +kernel
theorem dX3_real_45 : decode cX3_real 45 = .ok (.goto (-16), 3) := by decide +kernel
theorem dX3_real_48 : decode cX3_real 48 = .ok (.iload 8, 2) := by decide +kernel
theorem dX3_real_50 : decode cX3_real 50 = .ok (.iload_n 2, 1) := by decide +kernel
theorem dX3_real_51 : decode cX3_real 51 = .ok (.if_icmp .gt 15, 3) := by decide +kernel
theorem dX3_real_54 : decode cX3_real 54 = .ok (.lload 6, 2) := by decide +kernel
theorem dX3_real_56 : decode cX3_real 56 = .ok (.iload_n 2, 1) := by decide +kernel
theorem dX3_real_57 : decode cX3_real 57 = .ok (.iload 8, 2) := by decide +kernel
theorem dX3_real_59 : decode cX3_real 59 = .ok (.isub, 1) := by decide +kernel
theorem dX3_real_60 : decode cX3_real 60 = .ok (.lshl, 1) := by decide +kernel
theorem dX3_real_61 : decode cX3_real 61 = .ok (.lstore 6, 2) := by decide +kernel
theorem dX3_real_63 : decode cX3_real 63 = .ok (.goto 84, 3) := by decide +kernel
theorem dX3_real_66 : decode cX3_real 66 = .ok (.iload 8, 2) := by decide +kernel
theorem dX3_real_68 : decode cX3_real 68 = .ok (.iload_n 2, 1) := by decide +kernel
theorem dX3_real_69 : decode cX3_real 69 = .ok (.isub, 1) := by decide +kernel
theorem dX3_real_70 : decode cX3_real 70 = .ok (.istore 9, 2) := by decide +kernel
theorem dX3_real_72 : decode cX3_real 72 = .ok (.lload 6, 2) := by decide +kernel
theorem dX3_real_74 : decode cX3_real 74 = .ok (.lconst 1, 1) := by decide +kernel
theorem dX3_real_75 : decode cX3_real 75 = .ok (.iload 9, 2) := by decide +kernel
theorem dX3_real_77 : decode cX3_real 77 = .ok (.lshl, 1) := by decide +kernel
theorem dX3_real_78 : decode cX3_real 78 = .ok (.lconst 1, 1) := by decide +kernel
theorem dX3_real_79 : decode cX3_real 79 = .ok (.lsub, 1) := by decide +kernel
theorem dX3_real_80 : decode cX3_real 80 = .ok (.land, 1) := by decide +kernel
theorem dX3_real_81 : decode cX3_real 81 = .ok (.lstore 10, 2) := by decide +kernel
theorem dX3_real_83 : decode cX3_real 83 = .ok (.lconst 1, 1) := by decide +kernel
theorem dX3_real_84 : decode cX3_real 84 = .ok (.iload 9, 2) := by decide +kernel
theorem dX3_real_86 : decode cX3_real 86 = .ok (.iconst 1, 1) := by decide +kernel
theorem dX3_real_87 : decode cX3_real 87 = .ok (.isub, 1) := by decide +kernel
theorem dX3_real_88 : decode cX3_real 88 = .ok (.lshl, 1) := by decide +kernel
theorem dX3_real_89 : decode cX3_real 89 = .ok (.lstore 12, 2) := by decide +kernel
theorem dX3_real_91 : decode cX3_real 91 = .ok (.lload 6, 2) := by decide +kernel
theorem dX3_real_93 : decode cX3_real 93 = .ok (.iload 9, 2) := by decide +kernel
theorem dX3_real_95 : decode cX3_real 95 = .ok (.lushr, 1) := by decide +kernel
theorem dX3_real_96 : decode cX3_real 96 = .ok (.lstore 6, 2) := by decide +kernel
theorem dX3_real_98 : decode cX3_real 98 = .ok (.lload 10, 2) := by decide +kernel
theorem dX3_real_100 : decode cX3_real 100 = .ok (.lload 12, 2) := by decide +kernel
theorem dX3_real_102 : decode cX3_real 102 = .ok (.lcmp, 1) := by decide +kernel
theorem dX3_real_103 : decode cX3_real 103 = .ok (.ifCond .gt 20, 3) := by decide +kernel
theorem dX3_real_106 : decode cX3_real 106 = .ok (.lload 10, 2) := by decide +kernel
theorem dX3_real_108 : decode cX3_real 108 = .ok (.lload 12, 2) := by decide +kernel
theorem dX3_real_110 : decode cX3_real 110 = .ok (.lcmp, 1) := by decide +kernel
theorem dX3_real_111 : decode cX3_real 111 = .ok (.ifCond .ne 18, 3) := by decide +kernel
theorem dX3_real_114 : decode cX3_real 114 = .ok (.lload 6, 2) := by decide +kernel
theorem dX3_real_116 : decode cX3_real 116 = .ok (.lconst 1, 1) := by decide +kernel
theorem dX3_real_117 : decode cX3_real 117 = .ok (.land, 1) := by decide +kernel
theorem dX3_real_118 : decode cX3_real 118 = .ok (.lconst 1, 1) := by decide +kernel
theorem dX3_real_119 : decode cX3_real 119 = .ok (.lcmp, 1) := by decide +kernel
theorem dX3_real_120 : decode cX3_real 120 = .ok (.ifCond .ne 9, 3) := by decide +kernel
theorem dX3_real_123 : decode cX3_real 123 = .ok (.lload 6, 2) := by decide +kernel
theorem dX3_real_125 : decode cX3_real 125 = .ok (.lconst 1, 1) := by decide +kernel
theorem dX3_real_126 : decode cX3_real 126 = .ok (.ladd, 1) := by decide +kernel
theorem dX3_real_127 : decode cX3_real 127 = .ok (.lstore 6, 2) := by decide +kernel
theorem dX3_real_129 : decode cX3_real 129 = .ok (.lload 6, 2) := by decide +kernel
theorem dX3_real_131 : decode cX3_real 131 = .ok (.lconst 1, 1) := by decide +kernel
theorem dX3_real_132 : decode cX3_real 132 = .ok (.iload_n 2, 1) := by decide +kernel
theorem dX3_real_133 : decode cX3_real 133 = .ok (.lshl, 1) := by decide +kernel
theorem dX3_real_134 : decode cX3_real 134 = .ok (.lcmp, 1) := by decide +kernel
theorem dX3_real_135 : decode cX3_real 135 = .ok (.ifCond .ne 12, 3) := by decide +kernel
theorem dX3_real_138 : decode cX3_real 138 = .ok (.lload 6, 2) := by decide +kernel
theorem dX3_real_140 : decode cX3_real 140 = .ok (.iconst 1, 1) := by decide +kernel
theorem dX3_real_141 : decode cX3_real 141 = .ok (.lushr, 1) := by decide +kernel
theorem dX3_real_142 : decode cX3_real 142 = .ok (.lstore 6, 2) := by decide +kernel
theorem dX3_real_144 : decode cX3_real 144 = .ok (.iinc 8 1, 3) := by decide +kernel
theorem dX3_real_147 : decode cX3_real 147 = .ok (.lload_n 0, 1) := by decide +kernel
theorem dX3_real_148 : decode cX3_real 148 = .ok (.lconst 0, 1) := by decide +kernel
theorem dX3_real_149 : decode cX3_real 149 = .ok (.lcmp, 1) := by decide +kernel
theorem dX3_real_150 : decode cX3_real 150 = .ok (.ifCond .ge 8, 3) := by decide +kernel
theorem dX3_real_153 : decode cX3_real 153 = .ok (.lload 4, 2) := by decide +kernel
theorem dX3_real_155 : decode cX3_real 155 = .ok (.goto 4, 3) := by decide +kernel
theorem dX3_real_158 : decode cX3_real 158 = .ok (.lconst 0, 1) := by decide +kernel
theorem dX3_real_159 : decode cX3_real 159 = .ok (.iload 8, 2) := by decide +kernel
theorem dX3_real_161 : decode cX3_real 161 = .ok (.iconst 1, 1) := by decide +kernel
theorem dX3_real_162 : decode cX3_real 162 = .ok (.isub, 1) := by decide +kernel
theorem dX3_real_163 : decode cX3_real 163 = .ok (.iload_n 3, 1) := by decide +kernel
theorem dX3_real_164 : decode cX3_real 164 = .ok (.iadd, 1) := by decide +kernel
theorem dX3_real_165 : decode cX3_real 165 = .ok (.i2l, 1) := by decide +kernel
theorem dX3_real_166 : decode cX3_real 166 = .ok (.iload_n 2, 1) := by decide +kernel
theorem dX3_real_167 : decode cX3_real 167 = .ok (.iconst 1, 1) := by decide +kernel
theorem dX3_real_168 : decode cX3_real 168 = .ok (.isub, 1) := by decide +kernel
theorem dX3_real_169 : decode cX3_real 169 = .ok (.lshl, 1) := by decide +kernel
theorem dX3_real_170 : decode cX3_real 170 = .ok (.lor, 1) := by decide +kernel
theorem dX3_real_171 : decode cX3_real 171 = .ok (.lload 6, 2) := by decide +kernel
theorem dX3_real_173 : decode cX3_real 173 = .ok (.lconst 1, 1) := by decide +kernel
theorem dX3_real_174 : decode cX3_real 174 = .ok (.iload_n 2, 1) := by decide +kernel
theorem dX3_real_175 : decode cX3_real 175 = .ok (.iconst 1, 1) := by decide +kernel
theorem dX3_real_176 : decode cX3_real 176 = .ok (.isub, 1) := by decide +kernel
theorem dX3_real_177 : decode cX3_real 177 = .ok (.lshl, 1) := by decide +kernel
theorem dX3_real_178 : decode cX3_real 178 = .ok (.lconst 1, 1) := by decide +kernel
theorem dX3_real_179 : decode cX3_real 179 = .ok (.lsub, 1) := by decide +kernel
theorem dX3_real_180 : decode cX3_real 180 = .ok (.land, 1) := by decide +kernel
theorem dX3_real_181 : decode cX3_real 181 = .ok (.lor, 1) := by decide +kernel
theorem dX3_real_182 : decode cX3_real 182 = .ok (.lreturn, 1) := by decide +kernel
theorem dX3_wide_0 : decode cX3_wide 0 = .ok (.lload_n 0, 1) := by decide +kernel
theorem dX3_wide_1 : decode cX3_wide 1 = .ok (.lconst 0, 1) := by decide +kernel
theorem dX3_wide_2 : decode cX3_wide 2 = .ok (.lcmp, 1) := by decide +kernel
theorem dX3_wide_3 : decode cX3_wide 3 = .ok (.ifCond .ge 9, 3) := by decide +kernel
theorem dX3_wide_6 : decode cX3_wide 6 = .ok (.ldc2_w 118, 3) := by decide +kernel
theorem dX3_wide_9 : decode cX3_wide 9 = .ok (.goto 4, 3) := by decide +kernel
theorem dX3_wide_12 : decode cX3_wide 12 = .ok (.lconst 0, 1) := by decide +kernel
theorem dX3_wide_13 : decode cX3_wide 13 = .ok (.lstore_n 2, 1) := by decide +kernel
theorem dX3_wide_14 : decode cX3_wide 14 = .ok (.lload_n 0, 1) := by decide +kernel
theorem dX3_wide_15 : decode cX3_wide 15 = .ok (.bipush 23, 2) := by decide +kernel
theorem dX3_wide_17 : decode cX3_wide 17 = .ok (.lshr, 1) := by decide +kernel
theorem dX3_wide_18 : decode cX3_wide 18 = .ok (.l2i, 1) := by decide +kernel
theorem dX3_wide_19 : decode cX3_wide 19 = .ok (.sipush 255, 3) := by decide +kernel
theorem dX3_wide_22 : decode cX3_wide 22 = .ok (.iand, 1) := by decide +kernel
theorem dX3_wide_23 : decode cX3_wide 23 = .ok (.istore 4, 2) := by decide +kernel
theorem dX3_wide_25 : decode cX3_wide 25 = .ok (.lload_n 0, 1) := by decide +kernel
theorem dX3_wide_26 : decode cX3_wide 26 = .ok (.ldc2_w 120, 3) := by decide +kernel
theorem dX3_wide_29 : decode cX3_wide 29 = .ok (.land, 1) := by decide +kernel
theorem dX3_wide_30 : decode cX3_wide 30 = .ok (.lstore 5, 2) := by decide +kernel
theorem dX3_wide_32 : decode cX3_wide 32 = .ok (.iload 4, 2) := by decide +kernel
theorem dX3_wide_34 : decode cX3_wide 34 = .ok (.sipush 255, 3) := by decide +kernel
theorem dX3_wide_37 : decode cX3_wide 37 = .ok (.if_icmp .ne 22, 3) := by decide +kernel
theorem dX3_wide_40 : decode cX3_wide 40 = .ok (.lload 5, 2) := by decide +kernel
theorem dX3_wide_42 : decode cX3_wide 42 = .ok (.lconst 0, 1) := by decide +kernel
theorem dX3_wide_43 : decode cX3_wide 43 = .ok (.lcmp, 1) := by decide +kernel
theorem dX3_wide_44 : decode cX3_wide 44 = .ok (.ifCond .ne 11, 3) := by decide +kernel
theorem dX3_wide_47 : decode cX3_wide 47 = .ok (.lload_n 2, 1) := by decide +kernel
theorem dX3_wide_48 : decode cX3_wide 48 = .ok (.ldc2_w 114, 3) := by decide +kernel
theorem dX3_wide_51 : decode cX3_wide 51 = .ok (.lor, 1) := by decide +kernel
theorem dX3_wide_52 : decode cX3_wide 52 = .ok (.goto 6, 3) := by decide +kernel
theorem dX3_wide_55 : decode cX3_wide 55 = .ok (.ldc2_w 116, 3) := by decide +kernel
theorem dX3_wide_58 : decode cX3_wide 58 = .ok (.lreturn, 1) := by decide +kernel
theorem dX3_wide_59 : decode cX3_wide 59 = .ok (.iload 4, 2) := by decide +kernel
theorem dX3_wide_61 : decode cX3_wide 61 = .ok (.ifCond .ne 12, 3) := by decide +kernel
theorem dX3_wide_64 : decode cX3_wide 64 = .ok (.lload 5, 2) := by decide +kernel
theorem dX3_wide_66 : decode cX3_wide 66 = .ok (.lconst 0, 1) := by decide +kernel
theorem dX3_wide_67 : decode cX3_wide 67 = .ok (.lcmp, 1) := by decide +kernel
theorem dX3_wide_68 : decode cX3_wide 68 = .ok (.ifCond .ne 5, 3) := by decide +kernel
theorem dX3_wide_71 : decode cX3_wide 71 = .ok (.lload_n 2, 1) := by decide +kernel
theorem dX3_wide_72 : decode cX3_wide 72 = .ok (.lreturn, 1) := by decide +kernel
theorem dX3_wide_73 : decode cX3_wide 73 = .ok (.iload 4, 2) := by decide +kernel
theorem dX3_wide_75 : decode cX3_wide 75 = .ok (.bipush 127, 2) := by decide +kernel
theorem dX3_wide_77 : decode cX3_wide 77 = .ok (.isub, 1) := by decide +kernel
theorem dX3_wide_78 : decode cX3_wide 78 = .ok (.istore 7, 2) := by decide +kernel
theorem dX3_wide_80 : decode cX3_wide 80 = .ok (.iload 4, 2) := by decide +kernel
theorem dX3_wide_82 : decode cX3_wide 82 = .ok (.ifCond .ne 30, 3) := by decide +kernel
theorem dX3_wide_85 : decode cX3_wide 85 = .ok (.bipush (-126), 2) := by decide +kernel
theorem dX3_wide_87 : decode cX3_wide 87 = .ok (.istore 7, 2) := by decide +kernel
theorem dX3_wide_89 : decode cX3_wide 89 = .ok (.lload 5, 2) := by decide +kernel
theorem dX3_wide_91 : decode cX3_wide 91 = .ok (.ldc2_w 122, 3) := by decide +kernel
theorem dX3_wide_94 : decode cX3_wide 94 = .ok (.land, 1) := by decide +kernel
theorem dX3_wide_95 : decode cX3_wide 95 = .ok (.lconst 0, 1) := by decide +kernel
theorem dX3_wide_96 : decode cX3_wide 96 = .ok (.lcmp, 1) := by decide +kernel
theorem dX3_wide_97 : decode cX3_wide 97 = .ok (.ifCond .ne 15, 3) := by decide +kernel
theorem dX3_wide_100 : decode cX3_wide 100 = .ok (.lload 5, 2) := by decide +kernel
theorem dX3_wide_102 : decode cX3_wide 102 = .ok (.iconst 1, 1) := by decide +kernel
theorem dX3_wide_103 : decode cX3_wide 103 = .ok (.lshl, 1) := by decide +kernel
theorem dX3_wide_104 : decode cX3_wide 104 = .ok (.lstore 5, 2) := by decide +kernel
theorem dX3_wide_106 : decode cX3_wide 106 = .ok (.iinc 7 (-1), 3) := by decide +kernel
theorem dX3_wide_109 : decode cX3_wide 109 = .ok (.goto (-20), 3) := by decide +kernel
theorem dX3_wide_112 : decode cX3_wide 112 = .ok (.lload_n 2, 1) := by decide +kernel
theorem dX3_wide_113 : decode cX3_wide 113 = .ok (.iload 7, 2) := by decide +kernel
theorem dX3_wide_115 : decode cX3_wide 115 = .ok (.sipush 1023, 3) := by decide +kernel
theorem dX3_wide_118 : decode cX3_wide 118 = .ok (.iadd, 1) := by decide +kernel
theorem dX3_wide_119 : decode cX3_wide 119 = .ok (.i2l, 1) := by decide +kernel
theorem dX3_wide_120 : decode cX3_wide 120 = .ok (.bipush 52, 2) := by decide +kernel
theorem dX3_wide_122 : decode cX3_wide 122 = .ok (.lshl, 1) := by decide +kernel
theorem dX3_wide_123 : decode cX3_wide 123 = .ok (.lor, 1) := by decide +kernel
theorem dX3_wide_124 : decode cX3_wide 124 = .ok (.lload 5, 2) := by decide +kernel
theorem dX3_wide_126 : decode cX3_wide 126 = .ok (.ldc2_w 120, 3) := by decide +kernel
theorem dX3_wide_129 : decode cX3_wide 129 = .ok (.land, 1) := by decide +kernel
theorem dX3_wide_130 : decode cX3_wide 130 = .ok (.bipush 29, 2) := by decide +kernel
theorem dX3_wide_132 : decode cX3_wide 132 = .ok (.lshl, 1) := by decide +kernel
theorem dX3_wide_133 : decode cX3_wide 133 = .ok (.lor, 1) := by decide +kernel
theorem dX3_wide_134 : decode cX3_wide 134 = .ok (.lreturn, 1) := by decide +kernel
theorem dX3_narrow_0 : decode cX3_narrow 0 = .ok (.lload_n 0, 1) := by decide +kernel
theorem dX3_narrow_1 : decode cX3_narrow 1 = .ok (.lconst 0, 1) := by decide +kernel
theorem dX3_narrow_2 : decode cX3_narrow 2 = .ok (.lcmp, 1) := by decide +kernel
theorem dX3_narrow_3 : decode cX3_narrow 3 = .ok (.ifCond .ge 9, 3) := by decide +kernel
theorem dX3_narrow_6 : decode cX3_narrow 6 = .ok (.ldc2_w 100, 3) := by decide +kernel
theorem dX3_narrow_9 : decode cX3_narrow 9 = .ok (.goto 4, 3) := by decide +kernel
theorem dX3_narrow_12 : decode cX3_narrow 12 = .ok (.lconst 0, 1) := by decide +kernel
theorem dX3_narrow_13 : decode cX3_narrow 13 = .ok (.lstore_n 2, 1) := by decide +kernel
theorem dX3_narrow_14 : decode cX3_narrow 14 = .ok (.lload_n 0, 1) := by decide +kernel
theorem dX3_narrow_15 : decode cX3_narrow 15 = .ok (.bipush 52, 2) := by decide +kernel
theorem dX3_narrow_17 : decode cX3_narrow 17 = .ok (.lushr, 1) := by decide +kernel
theorem dX3_narrow_18 : decode cX3_narrow 18 = .ok (.l2i, 1) := by decide +kernel
theorem dX3_narrow_19 : decode cX3_narrow 19 = .ok (.sipush 2047, 3) := by decide +kernel
theorem dX3_narrow_22 : decode cX3_narrow 22 = .ok (.iand, 1) := by decide +kernel
theorem dX3_narrow_23 : decode cX3_narrow 23 = .ok (.istore 4, 2) := by decide +kernel
theorem dX3_narrow_25 : decode cX3_narrow 25 = .ok (.lload_n 0, 1) := by decide +kernel
theorem dX3_narrow_26 : decode cX3_narrow 26 = .ok (.ldc2_w 124, 3) := by decide +kernel
theorem dX3_narrow_29 : decode cX3_narrow 29 = .ok (.land, 1) := by decide +kernel
theorem dX3_narrow_30 : decode cX3_narrow 30 = .ok (.lstore 5, 2) := by decide +kernel
theorem dX3_narrow_32 : decode cX3_narrow 32 = .ok (.iload 4, 2) := by decide +kernel
theorem dX3_narrow_34 : decode cX3_narrow 34 = .ok (.sipush 2047, 3) := by decide +kernel
theorem dX3_narrow_37 : decode cX3_narrow 37 = .ok (.if_icmp .ne 22, 3) := by decide +kernel
theorem dX3_narrow_40 : decode cX3_narrow 40 = .ok (.lload 5, 2) := by decide +kernel
theorem dX3_narrow_42 : decode cX3_narrow 42 = .ok (.lconst 0, 1) := by decide +kernel
theorem dX3_narrow_43 : decode cX3_narrow 43 = .ok (.lcmp, 1) := by decide +kernel
theorem dX3_narrow_44 : decode cX3_narrow 44 = .ok (.ifCond .ne 11, 3) := by decide +kernel
theorem dX3_narrow_47 : decode cX3_narrow 47 = .ok (.lload_n 2, 1) := by decide +kernel
theorem dX3_narrow_48 : decode cX3_narrow 48 = .ok (.ldc2_w 108, 3) := by decide +kernel
theorem dX3_narrow_51 : decode cX3_narrow 51 = .ok (.lor, 1) := by decide +kernel
theorem dX3_narrow_52 : decode cX3_narrow 52 = .ok (.goto 6, 3) := by decide +kernel
theorem dX3_narrow_55 : decode cX3_narrow 55 = .ok (.ldc2_w 110, 3) := by decide +kernel
theorem dX3_narrow_58 : decode cX3_narrow 58 = .ok (.lreturn, 1) := by decide +kernel
theorem dX3_narrow_59 : decode cX3_narrow 59 = .ok (.iload 4, 2) := by decide +kernel
theorem dX3_narrow_61 : decode cX3_narrow 61 = .ok (.ifCond .ne 5, 3) := by decide +kernel
theorem dX3_narrow_64 : decode cX3_narrow 64 = .ok (.lload_n 2, 1) := by decide +kernel
theorem dX3_narrow_65 : decode cX3_narrow 65 = .ok (.lreturn, 1) := by decide +kernel
theorem dX3_narrow_66 : decode cX3_narrow 66 = .ok (.lload 5, 2) := by decide +kernel
theorem dX3_narrow_68 : decode cX3_narrow 68 = .ok (.ldc2_w 126, 3) := by decide +kernel
theorem dX3_narrow_71 : decode cX3_narrow 71 = .ok (.lor, 1) := by decide +kernel
theorem dX3_narrow_72 : decode cX3_narrow 72 = .ok (.lstore 5, 2) := by decide +kernel
theorem dX3_narrow_74 : decode cX3_narrow 74 = .ok (.iload 4, 2) := by decide +kernel
theorem dX3_narrow_76 : decode cX3_narrow 76 = .ok (.sipush 1023, 3) := by decide +kernel
theorem dX3_narrow_79 : decode cX3_narrow 79 = .ok (.isub, 1) := by decide +kernel
theorem dX3_narrow_80 : decode cX3_narrow 80 = .ok (.istore 7, 2) := by decide +kernel
theorem dX3_narrow_82 : decode cX3_narrow 82 = .ok (.iload 7, 2) := by decide +kernel
theorem dX3_narrow_84 : decode cX3_narrow 84 = .ok (.bipush (-126), 2) := by decide +kernel
theorem dX3_narrow_86 : decode cX3_narrow 86 = .ok (.if_icmp .ge 11, 3) := by decide +kernel
theorem dX3_narrow_89 : decode cX3_narrow 89 = .ok (.bipush (-97), 2) := by decide +kernel
theorem dX3_narrow_91 : decode cX3_narrow 91 = .ok (.iload 7, 2) := by decide +kernel
theorem dX3_narrow_93 : decode cX3_narrow 93 = .ok (.isub, 1) := by decide +kernel
theorem dX3_narrow_94 : decode cX3_narrow 94 = .ok (.goto 5, 3) := by decide +kernel
theorem dX3_narrow_97 : decode cX3_narrow 97 = .ok (.bipush 29, 2) := by decide +kernel
theorem dX3_narrow_99 : decode cX3_narrow 99 = .ok (.istore 8, 2) := by decide +kernel
theorem dX3_narrow_101 : decode cX3_narrow 101 = .ok (.iload 8, 2) := by decide +kernel
theorem dX3_narrow_103 : decode cX3_narrow 103 = .ok (.bipush 54, 2) := by decide +kernel
theorem dX3_narrow_105 : decode cX3_narrow 105 = .ok (.if_icmp .le 5, 3) := by decide +kernel
theorem dX3_narrow_108 : decode cX3_narrow 108 = .ok (.lload_n 2, 1) := by decide +kernel
theorem dX3_narrow_109 : decode cX3_narrow 109 = .ok (.lreturn, 1) := by decide +kernel
theorem dX3_narrow_110 : decode cX3_narrow 110 = .ok (.lload 5, 2) := by decide +kernel
theorem dX3_narrow_112 : decode cX3_narrow 112 = .ok (.lconst 1, 1) := by decide +kernel
theorem dX3_narrow_113 : decode cX3_narrow 113 = .ok (.iload 8, 2) := by decide +kernel
theorem dX3_narrow_115 : decode cX3_narrow 115 = .ok (.lshl, 1) := by decide +kernel
theorem dX3_narrow_116 : decode cX3_narrow 116 = .ok (.lconst 1, 1) := by decide +kernel
theorem dX3_narrow_117 : decode cX3_narrow 117 = .ok (.lsub, 1) := by decide +kernel
theorem dX3_narrow_118 : decode cX3_narrow 118 = .ok (.land, 1) := by decide +kernel
theorem dX3_narrow_119 : decode cX3_narrow 119 = .ok (.lstore 9, 2) := by decide +kernel
theorem dX3_narrow_121 : decode cX3_narrow 121 = .ok (.lconst 1, 1) := by decide +kernel
theorem dX3_narrow_122 : decode cX3_narrow 122 = .ok (.iload 8, 2) := by decide +kernel
theorem dX3_narrow_124 : decode cX3_narrow 124 = .ok (.iconst 1, 1) := by decide +kernel
theorem dX3_narrow_125 : decode cX3_narrow 125 = .ok (.isub, 1) := by decide +kernel
theorem dX3_narrow_126 : decode cX3_narrow 126 = .ok (.lshl, 1) := by decide +kernel
theorem dX3_narrow_127 : decode cX3_narrow 127 = .ok (.lstore 11, 2) := by decide +kernel
theorem dX3_narrow_129 : decode cX3_narrow 129 = .ok (.lload 5, 2) := by decide +kernel
theorem dX3_narrow_131 : decode cX3_narrow 131 = .ok (.iload 8, 2) := by decide +kernel
theorem dX3_narrow_133 : decode cX3_narrow 133 = .ok (.lushr, 1) := by decide +kernel
theorem dX3_narrow_134 : decode cX3_narrow 134 = .ok (.lstore 5, 2) := by decide +kernel
theorem dX3_narrow_136 : decode cX3_narrow 136 = .ok (.lload 9, 2) := by decide +kernel
theorem dX3_narrow_138 : decode cX3_narrow 138 = .ok (.lload 11, 2) := by decide +kernel
theorem dX3_narrow_140 : decode cX3_narrow 140 = .ok (.lcmp, 1) := by decide +kernel
theorem dX3_narrow_141 : decode cX3_narrow 141 = .ok (.ifCond .gt 20, 3) := by decide +kernel
theorem dX3_narrow_144 : decode cX3_narrow 144 = .ok (.lload 9, 2) := by decide +kernel
theorem dX3_narrow_146 : decode cX3_narrow 146 = .ok (.lload 11, 2) := by decide +kernel
theorem dX3_narrow_148 : decode cX3_narrow 148 = .ok (.lcmp, 1) := by decide +kernel
theorem dX3_narrow_149 : decode cX3_narrow 149 = .ok (.ifCond .ne 18, 3) := by decide +kernel
theorem dX3_narrow_152 : decode cX3_narrow 152 = .ok (.lload 5, 2) := by decide +kernel
theorem dX3_narrow_154 : decode cX3_narrow 154 = .ok (.lconst 1, 1) := by decide +kernel
theorem dX3_narrow_155 : decode cX3_narrow 155 = .ok (.land, 1) := by decide +kernel
theorem dX3_narrow_156 : decode cX3_narrow 156 = .ok (.lconst 1, 1) := by decide +kernel
theorem dX3_narrow_157 : decode cX3_narrow 157 = .ok (.lcmp, 1) := by decide +kernel
theorem dX3_narrow_158 : decode cX3_narrow 158 = .ok (.ifCond .ne 9, 3) := by decide +kernel
theorem dX3_narrow_161 : decode cX3_narrow 161 = .ok (.lload 5, 2) := by decide +kernel
theorem dX3_narrow_163 : decode cX3_narrow 163 = .ok (.lconst 1, 1) := by decide +kernel
theorem dX3_narrow_164 : decode cX3_narrow 164 = .ok (.ladd, 1) := by decide +kernel
theorem dX3_narrow_165 : decode cX3_narrow 165 = .ok (.lstore 5, 2) := by decide +kernel
theorem dX3_narrow_167 : decode cX3_narrow 167 = .ok (.iload 7, 2) := by decide +kernel
theorem dX3_narrow_169 : decode cX3_narrow 169 = .ok (.bipush (-126), 2) := by decide +kernel
theorem dX3_narrow_171 : decode cX3_narrow 171 = .ok (.if_icmp .ge 8, 3) := by decide +kernel
theorem dX3_narrow_174 : decode cX3_narrow 174 = .ok (.lload 5, 2) := by decide +kernel
theorem dX3_narrow_176 : decode cX3_narrow 176 = .ok (.goto 15, 3) := by decide +kernel
theorem dX3_narrow_179 : decode cX3_narrow 179 = .ok (.iload 7, 2) := by decide +kernel
theorem dX3_narrow_181 : decode cX3_narrow 181 = .ok (.bipush 126, 2) := by decide +kernel
theorem dX3_narrow_183 : decode cX3_narrow 183 = .ok (.iadd, 1) := by decide +kernel
theorem dX3_narrow_184 : decode cX3_narrow 184 = .ok (.i2l, 1) := by decide +kernel
theorem dX3_narrow_185 : decode cX3_narrow 185 = .ok (.bipush 23, 2) := by decide +kernel
theorem dX3_narrow_187 : decode cX3_narrow 187 = .ok (.lshl, 1) := by decide +kernel
theorem dX3_narrow_188 : decode cX3_narrow 188 = .ok (.lload 5, 2) := by decide +kernel
theorem dX3_narrow_190 : decode cX3_narrow 190 = .ok (.ladd, 1) := by decide +kernel
theorem dX3_narrow_191 : decode cX3_narrow 191 = .ok (.lstore 13, 2) := by decide +kernel
theorem dX3_narrow_193 : decode cX3_narrow 193 = .ok (.lload_n 2, 1) := by decide +kernel
theorem dX3_narrow_194 : decode cX3_narrow 194 = .ok (.lload 13, 2) := by decide +kernel
theorem dX3_narrow_196 : decode cX3_narrow 196 = .ok (.ldc2_w 108, 3) := by decide +kernel
theorem dX3_narrow_199 : decode cX3_narrow 199 = .ok (.lcmp, 1) := by decide +kernel
theorem dX3_narrow_200 : decode cX3_narrow 200 = .ok (.ifCond .lt 9, 3) := by decide +kernel
theorem dX3_narrow_203 : decode cX3_narrow 203 = .ok (.ldc2_w 108, 3) := by decide +kernel
theorem dX3_narrow_206 : decode cX3_narrow 206 = .ok (.goto 5, 3) := by decide +kernel
theorem dX3_narrow_209 : decode cX3_narrow 209 = .ok (.lload 13, 2) := by decide +kernel
theorem dX3_narrow_211 : decode cX3_narrow 211 = .ok (.lor, 1) := by decide +kernel
theorem dX3_narrow_212 : decode cX3_narrow 212 = .ok (.lreturn, 1) := by decide +kernel
theorem dX3_whole_0 : decode cX3_whole 0 = .ok (.lload_n 0, 1) := by decide +kernel
theorem dX3_whole_1 : decode cX3_whole 1 = .ok (.bipush 52, 2) := by decide +kernel
theorem dX3_whole_3 : decode cX3_whole 3 = .ok (.lushr, 1) := by decide +kernel
theorem dX3_whole_4 : decode cX3_whole 4 = .ok (.l2i, 1) := by decide +kernel
theorem dX3_whole_5 : decode cX3_whole 5 = .ok (.sipush 2047, 3) := by decide +kernel
theorem dX3_whole_8 : decode cX3_whole 8 = .ok (.iand, 1) := by decide +kernel
theorem dX3_whole_9 : decode cX3_whole 9 = .ok (.istore 6, 2) := by decide +kernel
theorem dX3_whole_11 : decode cX3_whole 11 = .ok (.lload_n 0, 1) := by decide +kernel
theorem dX3_whole_12 : decode cX3_whole 12 = .ok (.ldc2_w 124, 3) := by decide +kernel
theorem dX3_whole_15 : decode cX3_whole 15 = .ok (.land, 1) := by decide +kernel
theorem dX3_whole_16 : decode cX3_whole 16 = .ok (.lstore 7, 2) := by decide +kernel
theorem dX3_whole_18 : decode cX3_whole 18 = .ok (.iload 6, 2) := by decide +kernel
theorem dX3_whole_20 : decode cX3_whole 20 = .ok (.sipush 2047, 3) := by decide +kernel
theorem dX3_whole_23 : decode cX3_whole 23 = .ok (.if_icmp .ne 12, 3) := by decide +kernel
theorem dX3_whole_26 : decode cX3_whole 26 = .ok (.lload 7, 2) := by decide +kernel
theorem dX3_whole_28 : decode cX3_whole 28 = .ok (.lconst 0, 1) := by decide +kernel
theorem dX3_whole_29 : decode cX3_whole 29 = .ok (.lcmp, 1) := by decide +kernel
theorem dX3_whole_30 : decode cX3_whole 30 = .ok (.ifCond .eq 5, 3) := by decide +kernel
theorem dX3_whole_33 : decode cX3_whole 33 = .ok (.lconst 0, 1) := by decide +kernel
theorem dX3_whole_34 : decode cX3_whole 34 = .ok (.lreturn, 1) := by decide +kernel
theorem dX3_whole_35 : decode cX3_whole 35 = .ok (.lload_n 0, 1) := by decide +kernel
theorem dX3_whole_36 : decode cX3_whole 36 = .ok (.lconst 0, 1) := by decide +kernel
theorem dX3_whole_37 : decode cX3_whole 37 = .ok (.lcmp, 1) := by decide +kernel
theorem dX3_whole_38 : decode cX3_whole 38 = .ok (.ifCond .ge 7, 3) := by decide +kernel
theorem dX3_whole_41 : decode cX3_whole 41 = .ok (.iconst 1, 1) := by decide +kernel
theorem dX3_whole_42 : decode cX3_whole 42 = .ok (.goto 4, 3) := by decide +kernel
theorem dX3_whole_45 : decode cX3_whole 45 = .ok (.iconst 0, 1) := by decide +kernel
theorem dX3_whole_46 : decode cX3_whole 46 = .ok (.istore 9, 2) := by decide +kernel
theorem dX3_whole_48 : decode cX3_whole 48 = .ok (.iload 6, 2) := by decide +kernel
theorem dX3_whole_50 : decode cX3_whole 50 = .ok (.sipush 1023, 3) := by decide +kernel
theorem dX3_whole_53 : decode cX3_whole 53 = .ok (.isub, 1) := by decide +kernel
theorem dX3_whole_54 : decode cX3_whole 54 = .ok (.istore 10, 2) := by decide +kernel
theorem dX3_whole_56 : decode cX3_whole 56 = .ok (.iload 10, 2) := by decide +kernel
theorem dX3_whole_58 : decode cX3_whole 58 = .ok (.ifCond .ge 5, 3) := by decide +kernel
theorem dX3_whole_61 : decode cX3_whole 61 = .ok (.lconst 0, 1) := by decide +kernel
theorem dX3_whole_62 : decode cX3_whole 62 = .ok (.lreturn, 1) := by decide +kernel
theorem dX3_whole_63 : decode cX3_whole 63 = .ok (.iload 10, 2) := by decide +kernel
theorem dX3_whole_65 : decode cX3_whole 65 = .ok (.bipush 62, 2) := by decide +kernel
theorem dX3_whole_67 : decode cX3_whole 67 = .ok (.if_icmp .le 15, 3) := by decide +kernel
theorem dX3_whole_70 : decode cX3_whole 70 = .ok (.iload 9, 2) := by decide +kernel
theorem dX3_whole_72 : decode cX3_whole 72 = .ok (.ifCond .eq 7, 3) := by decide +kernel
theorem dX3_whole_75 : decode cX3_whole 75 = .ok (.lload_n 2, 1) := by decide +kernel
theorem dX3_whole_76 : decode cX3_whole 76 = .ok (.goto 5, 3) := by decide +kernel
theorem dX3_whole_79 : decode cX3_whole 79 = .ok (.lload 4, 2) := by decide +kernel
theorem dX3_whole_81 : decode cX3_whole 81 = .ok (.lreturn, 1) := by decide +kernel
theorem dX3_whole_82 : decode cX3_whole 82 = .ok (.lload 7, 2) := by decide +kernel
theorem dX3_whole_84 : decode cX3_whole 84 = .ok (.ldc2_w 126, 3) := by decide +kernel
theorem dX3_whole_87 : decode cX3_whole 87 = .ok (.lor, 1) := by decide +kernel
theorem dX3_whole_88 : decode cX3_whole 88 = .ok (.lstore 7, 2) := by decide +kernel
theorem dX3_whole_90 : decode cX3_whole 90 = .ok (.iload 10, 2) := by decide +kernel
theorem dX3_whole_92 : decode cX3_whole 92 = .ok (.bipush 52, 2) := by decide +kernel
theorem dX3_whole_94 : decode cX3_whole 94 = .ok (.if_icmp .le 14, 3) := by decide +kernel
theorem dX3_whole_97 : decode cX3_whole 97 = .ok (.lload 7, 2) := by decide +kernel
theorem dX3_whole_99 : decode cX3_whole 99 = .ok (.iload 10, 2) := by decide +kernel
theorem dX3_whole_101 : decode cX3_whole 101 = .ok (.bipush 52, 2) := by decide +kernel
theorem dX3_whole_103 : decode cX3_whole 103 = .ok (.isub, 1) := by decide +kernel
theorem dX3_whole_104 : decode cX3_whole 104 = .ok (.lshl, 1) := by decide +kernel
theorem dX3_whole_105 : decode cX3_whole 105 = .ok (.goto 11, 3) := by decide +kernel
theorem dX3_whole_108 : decode cX3_whole 108 = .ok (.lload 7, 2) := by decide +kernel
theorem dX3_whole_110 : decode cX3_whole 110 = .ok (.bipush 52, 2) := by decide +kernel
theorem dX3_whole_112 : decode cX3_whole 112 = .ok (.iload 10, 2) := by decide +kernel
theorem dX3_whole_114 : decode cX3_whole 114 = .ok (.isub, 1) := by decide +kernel
theorem dX3_whole_115 : decode cX3_whole 115 = .ok (.lushr, 1) := by decide +kernel
theorem dX3_whole_116 : decode cX3_whole 116 = .ok (.lstore 11, 2) := by decide +kernel
theorem dX3_whole_118 : decode cX3_whole 118 = .ok (.iload 9, 2) := by decide +kernel
theorem dX3_whole_120 : decode cX3_whole 120 = .ok (.ifCond .eq 9, 3) := by decide +kernel
theorem dX3_whole_123 : decode cX3_whole 123 = .ok (.lload 11, 2) := by decide +kernel
theorem dX3_whole_125 : decode cX3_whole 125 = .ok (.lneg, 1) := by decide +kernel
theorem dX3_whole_126 : decode cX3_whole 126 = .ok (.goto 5, 3) := by decide +kernel
theorem dX3_whole_129 : decode cX3_whole 129 = .ok (.lload 11, 2) := by decide +kernel
theorem dX3_whole_131 : decode cX3_whole 131 = .ok (.lstore 11, 2) := by decide +kernel
theorem dX3_whole_133 : decode cX3_whole 133 = .ok (.lload 11, 2) := by decide +kernel
theorem dX3_whole_135 : decode cX3_whole 135 = .ok (.lload_n 2, 1) := by decide +kernel
theorem dX3_whole_136 : decode cX3_whole 136 = .ok (.lcmp, 1) := by decide +kernel
theorem dX3_whole_137 : decode cX3_whole 137 = .ok (.ifCond .ge 7, 3) := by decide +kernel
theorem dX3_whole_140 : decode cX3_whole 140 = .ok (.lload_n 2, 1) := by decide +kernel
theorem dX3_whole_141 : decode cX3_whole 141 = .ok (.goto 18, 3) := by decide +kernel
theorem dX3_whole_144 : decode cX3_whole 144 = .ok (.lload 11, 2) := by decide +kernel
theorem dX3_whole_146 : decode cX3_whole 146 = .ok (.lload 4, 2) := by decide +kernel
theorem dX3_whole_148 : decode cX3_whole 148 = .ok (.lcmp, 1) := by decide +kernel
theorem dX3_whole_149 : decode cX3_whole 149 = .ok (.ifCond .le 8, 3) := by decide +kernel
theorem dX3_whole_152 : decode cX3_whole 152 = .ok (.lload 4, 2) := by decide +kernel
theorem dX3_whole_154 : decode cX3_whole 154 = .ok (.goto 5, 3) := by decide +kernel
theorem dX3_whole_157 : decode cX3_whole 157 = .ok (.lload 11, 2) := by decide +kernel
theorem dX3_whole_159 : decode cX3_whole 159 = .ok (.lreturn, 1) := by decide +kernel
theorem dX3_cutTo_0 : decode cX3_cutTo 0 = .ok (.iload_n 0, 1) := by decide +kernel
theorem dX3_cutTo_1 : decode cX3_cutTo 1 = .ok (.tableswitch 51 1 4 #[31, 37, 42, 47], 31) := by decide +kernel
theorem dX3_cutTo_32 : decode cX3_cutTo 32 = .ok (.lload_n 1, 1) := by decide +kernel
theorem dX3_cutTo_33 : decode cX3_cutTo 33 = .ok (.ldc2_w 90, 3) := by decide +kernel
theorem dX3_cutTo_36 : decode cX3_cutTo 36 = .ok (.land, 1) := by decide +kernel
theorem dX3_cutTo_37 : decode cX3_cutTo 37 = .ok (.lreturn, 1) := by decide +kernel
theorem dX3_cutTo_38 : decode cX3_cutTo 38 = .ok (.lload_n 1, 1) := by decide +kernel
theorem dX3_cutTo_39 : decode cX3_cutTo 39 = .ok (.l2i, 1) := by decide +kernel
theorem dX3_cutTo_40 : decode cX3_cutTo 40 = .ok (.i2b, 1) := by decide +kernel
theorem dX3_cutTo_41 : decode cX3_cutTo 41 = .ok (.i2l, 1) := by decide +kernel
theorem dX3_cutTo_42 : decode cX3_cutTo 42 = .ok (.lreturn, 1) := by decide +kernel
theorem dX3_cutTo_43 : decode cX3_cutTo 43 = .ok (.lload_n 1, 1) := by decide +kernel
theorem dX3_cutTo_44 : decode cX3_cutTo 44 = .ok (.l2i, 1) := by decide +kernel
theorem dX3_cutTo_45 : decode cX3_cutTo 45 = .ok (.i2s, 1) := by decide +kernel
theorem dX3_cutTo_46 : decode cX3_cutTo 46 = .ok (.i2l, 1) := by decide +kernel
theorem dX3_cutTo_47 : decode cX3_cutTo 47 = .ok (.lreturn, 1) := by decide +kernel
theorem dX3_cutTo_48 : decode cX3_cutTo 48 = .ok (.lload_n 1, 1) := by decide +kernel
theorem dX3_cutTo_49 : decode cX3_cutTo 49 = .ok (.l2i, 1) := by decide +kernel
theorem dX3_cutTo_50 : decode cX3_cutTo 50 = .ok (.i2l, 1) := by decide +kernel
theorem dX3_cutTo_51 : decode cX3_cutTo 51 = .ok (.lreturn, 1) := by decide +kernel
theorem dX3_cutTo_52 : decode cX3_cutTo 52 = .ok (.lload_n 1, 1) := by decide +kernel
theorem dX3_cutTo_53 : decode cX3_cutTo 53 = .ok (.lreturn, 1) := by decide +kernel
set_option maxRecDepth 20000 in
theorem ggX3_turned_X3_isType : GoodIn wsX3_turned wsX3_isType := goodIn_r _ [12, 13, 14, 15, 11, 16, 57, 58, 59, 60, 61, 62, 63, 64, 65, 66] (by decide +kernel) (by decide +kernel)
set_option maxRecDepth 20000 in
theorem gX3_turned_X3_isType : GoodIn wsX3_turned (wsV RX3 59 RX3 yX3_isType wsX3_isType) := goodIn_app (goodIn_of _ (by decide +kernel)) ggX3_turned_X3_isType
set_option maxRecDepth 20000 in
theorem ggX3_turned_X3_isNumber : GoodIn wsX3_turned wsX3_isNumber := goodIn_r _ [19, 14, 15, 11, 16] (by decide +kernel) (by decide +kernel)
set_option maxRecDepth 20000 in
theorem gX3_turned_X3_isNumber : GoodIn wsX3_turned (va_wsS RX3 71 yX3_isNumber wsX3_isNumber) := goodIn_app (goodIn_of _ (by decide +kernel)) ggX3_turned_X3_isNumber
set_option maxRecDepth 20000 in
theorem ggX3_turned_X3_isBits : GoodIn wsX3_turned wsX3_isBits := goodIn_r _ [22, 23, 24, 11, 25, 26, 27, 28, 29, 30, 4, 7] (by decide +kernel) (by decide +kernel)
set_option maxRecDepth 20000 in
theorem gX3_turned_X3_isBits : GoodIn wsX3_turned (va_wsS RX3 130 yX3_isBits wsX3_isBits) := goodIn_app (goodIn_of _ (by decide +kernel)) ggX3_turned_X3_isBits
set_option maxRecDepth 20000 in
theorem ggX3_turned_X3_one : GoodIn wsX3_turned wsX3_one := goodIn_r _ [33, 7, 34, 35, 6, 36, 37] (by decide +kernel) (by decide +kernel)
set_option maxRecDepth 20000 in
theorem gX3_turned_X3_one : GoodIn wsX3_turned (va_wsS RX3 135 yX3_one wsX3_one) := goodIn_app (goodIn_of _ (by decide +kernel)) ggX3_turned_X3_one
end
section
set_option maxRecDepth 20000 in
theorem ggX3_turned_X3_real : GoodIn wsX3_turned wsX3_real := goodIn_r _ [40] (by decide +kernel) (by decide +kernel)
set_option maxRecDepth 20000 in
theorem gX3_turned_X3_real : GoodIn wsX3_turned (va_wsS RX3 139 yX3_real wsX3_real) := goodIn_app (goodIn_of _ (by decide +kernel)) ggX3_turned_X3_real
set_option maxRecDepth 20000 in
theorem ggX3_turned_X3_cutTo : GoodIn wsX3_turned wsX3_cutTo := goodIn_r _ [43, 26] (by decide +kernel) (by decide +kernel)
set_option maxRecDepth 20000 in
theorem gX3_turned_X3_cutTo : GoodIn wsX3_turned (va_wsS RX3 143 yX3_cutTo wsX3_cutTo) := goodIn_app (goodIn_of _ (by decide +kernel)) ggX3_turned_X3_cutTo
set_option maxRecDepth 20000 in
theorem ggX3_turned_X3_wide : GoodIn wsX3_turned wsX3_wide := goodIn_r _ [46, 5, 47, 36, 37, 48] (by decide +kernel) (by decide +kernel)
set_option maxRecDepth 20000 in
theorem gX3_turned_X3_wide : GoodIn wsX3_turned (va_wsS RX3 146 yX3_wide wsX3_wide) := goodIn_app (goodIn_of _ (by decide +kernel)) ggX3_turned_X3_wide
set_option maxRecDepth 20000 in
theorem ggX3_turned_X3_narrow : GoodIn wsX3_turned wsX3_narrow := goodIn_r _ [51, 4, 52, 34, 35, 53] (by decide +kernel) (by decide +kernel)
set_option maxRecDepth 20000 in
theorem gX3_turned_X3_narrow : GoodIn wsX3_turned (va_wsS RX3 150 yX3_narrow wsX3_narrow) := goodIn_app (goodIn_of _ (by decide +kernel)) ggX3_turned_X3_narrow
set_option maxRecDepth 20000 in
theorem ggX3_turned_X3_whole : GoodIn wsX3_turned wsX3_whole := goodIn_r _ [56, 52, 53] (by decide +kernel) (by decide +kernel)
set_option maxRecDepth 20000 in
theorem gX3_turned_X3_whole : GoodIn wsX3_turned (va_wsS RX3 153 yX3_whole wsX3_whole) := goodIn_app (goodIn_of _ (by decide +kernel)) ggX3_turned_X3_whole
theorem dX3_turned_0 : decode cX3_turned 0 = .ok (.aload_n 0, 1) := by decide +kernel
theorem dX3_turned_1 : decode cX3_turned 1 = .ok (.iconst 0, 1) := by decide +kernel
theorem dX3_turned_2 : decode cX3_turned 2 = .ok (.putfield 40, 3) := by decide +kernel
theorem dX3_turned_5 : decode cX3_turned 5 = .ok (.aload_n 0, 1) := by decide +kernel
theorem dX3_turned_6 : decode cX3_turned 6 = .ok (.iload_n 1, 1) := by decide +kernel
theorem dX3_turned_7 : decode cX3_turned 7 = .ok (.invokevirtual 59, 3) := by decide +kernel
theorem dX3_turned_10 : decode cX3_turned 10 = .ok (.ifCond .eq 27, 3) := by decide +kernel
theorem dX3_turned_13 : decode cX3_turned 13 = .ok (.aload_n 0, 1) := by decide +kernel
theorem dX3_turned_14 : decode cX3_turned 14 = .ok (.iload 4, 2) := by decide +kernel
theorem dX3_turned_16 : decode cX3_turned 16 = .ok (.invokevirtual 59, 3) := by decide +kernel
theorem dX3_turned_19 : decode cX3_turned 19 = .ok (.ifCond .eq 18, 3) := by decide +kernel
theorem dX3_turned_22 : decode cX3_turned 22 = .ok (.iload_n 1, 1) := by decide +kernel
theorem dX3_turned_23 : decode cX3_turned 23 = .ok (.invokestatic 71, 3) := by decide +kernel
theorem dX3_turned_26 : decode cX3_turned 26 = .ok (.ifCond .eq 11, 3) := by decide +kernel
theorem dX3_turned_29 : decode cX3_turned 29 = .ok (.iload 4, 2) := by decide +kernel
theorem dX3_turned_31 : decode cX3_turned 31 = .ok (.invokestatic 71, 3) := by decide +kernel
theorem dX3_turned_34 : decode cX3_turned 34 = .ok (.ifCond .ne 7, 3) := by decide +kernel
theorem dX3_turned_37 : decode cX3_turned 37 = .ok (.ldc2_w 128, 3) := by decide +kernel
theorem dX3_turned_40 : decode cX3_turned 40 = .ok (.lreturn, 1) := by decide +kernel
theorem dX3_turned_41 : decode cX3_turned 41 = .ok (.iload_n 1, 1) := by decide +kernel
theorem dX3_turned_42 : decode cX3_turned 42 = .ok (.lload_n 2, 1) := by decide +kernel
theorem dX3_turned_43 : decode cX3_turned 43 = .ok (.invokestatic 130, 3) := by decide +kernel
theorem dX3_turned_46 : decode cX3_turned 46 = .ok (.ifCond .ne 7, 3) := by decide +kernel
theorem dX3_turned_49 : decode cX3_turned 49 = .ok (.ldc2_w 133, 3) := by decide +kernel
theorem dX3_turned_52 : decode cX3_turned 52 = .ok (.lreturn, 1) := by decide +kernel
theorem dX3_turned_53 : decode cX3_turned 53 = .ok (.iload_n 1, 1) := by decide +kernel
theorem dX3_turned_54 : decode cX3_turned 54 = .ok (.iload 4, 2) := by decide +kernel
theorem dX3_turned_56 : decode cX3_turned 56 = .ok (.if_icmp .ne 9, 3) := by decide +kernel
theorem dX3_turned_59 : decode cX3_turned 59 = .ok (.iload_n 1, 1) := by decide +kernel
theorem dX3_turned_60 : decode cX3_turned 60 = .ok (.lload_n 2, 1) := by decide +kernel
theorem dX3_turned_61 : decode cX3_turned 61 = .ok (.invokestatic 135, 3) := by decide +kernel
theorem dX3_turned_64 : decode cX3_turned 64 = .ok (.lreturn, 1) := by decide +kernel
theorem dX3_turned_65 : decode cX3_turned 65 = .ok (.iload_n 1, 1) := by decide +kernel
theorem dX3_turned_66 : decode cX3_turned 66 = .ok (.bipush 6, 2) := by decide +kernel
theorem dX3_turned_68 : decode cX3_turned 68 = .ok (.if_icmp .ge 55, 3) := by decide +kernel
theorem dX3_turned_71 : decode cX3_turned 71 = .ok (.iload 4, 2) := by decide +kernel
theorem dX3_turned_73 : decode cX3_turned 73 = .ok (.bipush 6, 2) := by decide +kernel
theorem dX3_turned_75 : decode cX3_turned 75 = .ok (.if_icmp .ne 19, 3) := by decide +kernel
theorem dX3_turned_78 : decode cX3_turned 78 = .ok (.lload_n 2, 1) := by decide +kernel
theorem dX3_turned_79 : decode cX3_turned 79 = .ok (.bipush 24, 2) := by decide +kernel
theorem dX3_turned_81 : decode cX3_turned 81 = .ok (.bipush 127, 2) := by decide +kernel
theorem dX3_turned_83 : decode cX3_turned 83 = .ok (.ldc2_w 100, 3) := by decide +kernel
theorem dX3_turned_86 : decode cX3_turned 86 = .ok (.invokestatic 139, 3) := by decide +kernel
theorem dX3_turned_89 : decode cX3_turned 89 = .ok (.l2i, 1) := by decide +kernel
theorem dX3_turned_90 : decode cX3_turned 90 = .ok (.i2l, 1) := by decide +kernel
theorem dX3_turned_91 : decode cX3_turned 91 = .ok (.goto 31, 3) := by decide +kernel
theorem dX3_turned_94 : decode cX3_turned 94 = .ok (.iload 4, 2) := by decide +kernel
theorem dX3_turned_96 : decode cX3_turned 96 = .ok (.bipush 7, 2) := by decide +kernel
theorem dX3_turned_98 : decode cX3_turned 98 = .ok (.if_icmp .ne 18, 3) := by decide +kernel
theorem dX3_turned_101 : decode cX3_turned 101 = .ok (.lload_n 2, 1) := by decide +kernel
theorem dX3_turned_102 : decode cX3_turned 102 = .ok (.bipush 53, 2) := by decide +kernel
theorem dX3_turned_104 : decode cX3_turned 104 = .ok (.sipush 1023, 3) := by decide +kernel
theorem dX3_turned_107 : decode cX3_turned 107 = .ok (.ldc2_w 118, 3) := by decide +kernel
theorem dX3_turned_110 : decode cX3_turned 110 = .ok (.invokestatic 139, 3) := by decide +kernel
theorem dX3_turned_113 : decode cX3_turned 113 = .ok (.goto 9, 3) := by decide +kernel
theorem dX3_turned_116 : decode cX3_turned 116 = .ok (.iload 4, 2) := by decide +kernel
theorem dX3_turned_118 : decode cX3_turned 118 = .ok (.lload_n 2, 1) := by decide +kernel
theorem dX3_turned_119 : decode cX3_turned 119 = .ok (.invokestatic 143, 3) := by decide +kernel
theorem dX3_turned_122 : decode cX3_turned 122 = .ok (.lreturn, 1) := by decide +kernel
theorem dX3_turned_123 : decode cX3_turned 123 = .ok (.iload_n 1, 1) := by decide +kernel
theorem dX3_turned_124 : decode cX3_turned 124 = .ok (.bipush 6, 2) := by decide +kernel
theorem dX3_turned_126 : decode cX3_turned 126 = .ok (.if_icmp .ne 10, 3) := by decide +kernel
theorem dX3_turned_129 : decode cX3_turned 129 = .ok (.lload_n 2, 1) := by decide +kernel
theorem dX3_turned_130 : decode cX3_turned 130 = .ok (.invokestatic 146, 3) := by decide +kernel
theorem dX3_turned_133 : decode cX3_turned 133 = .ok (.goto 9, 3) := by decide +kernel
theorem dX3_turned_136 : decode cX3_turned 136 = .ok (.bipush 7, 2) := by decide +kernel
theorem dX3_turned_138 : decode cX3_turned 138 = .ok (.lload_n 2, 1) := by decide +kernel
theorem dX3_turned_139 : decode cX3_turned 139 = .ok (.invokestatic 135, 3) := by decide +kernel
theorem dX3_turned_142 : decode cX3_turned 142 = .ok (.lstore 5, 2) := by decide +kernel
theorem dX3_turned_144 : decode cX3_turned 144 = .ok (.iload 4, 2) := by decide +kernel
theorem dX3_turned_146 : decode cX3_turned 146 = .ok (.iconst 5, 1) := by decide +kernel
theorem dX3_turned_147 : decode cX3_turned 147 = .ok (.if_icmp .le 21, 3) := by decide +kernel
theorem dX3_turned_150 : decode cX3_turned 150 = .ok (.iload 4, 2) := by decide +kernel
theorem dX3_turned_152 : decode cX3_turned 152 = .ok (.bipush 7, 2) := by decide +kernel
theorem dX3_turned_154 : decode cX3_turned 154 = .ok (.if_icmp .ne 8, 3) := by decide +kernel
theorem dX3_turned_157 : decode cX3_turned 157 = .ok (.lload 5, 2) := by decide +kernel
theorem dX3_turned_159 : decode cX3_turned 159 = .ok (.goto 8, 3) := by decide +kernel
theorem dX3_turned_162 : decode cX3_turned 162 = .ok (.lload 5, 2) := by decide +kernel
theorem dX3_turned_164 : decode cX3_turned 164 = .ok (.invokestatic 150, 3) := by decide +kernel
theorem dX3_turned_167 : decode cX3_turned 167 = .ok (.lreturn, 1) := by decide +kernel
theorem dX3_turned_168 : decode cX3_turned 168 = .ok (.iload 4, 2) := by decide +kernel
theorem dX3_turned_170 : decode cX3_turned 170 = .ok (.iconst 5, 1) := by decide +kernel
theorem dX3_turned_171 : decode cX3_turned 171 = .ok (.if_icmp .ne 17, 3) := by decide +kernel
theorem dX3_turned_174 : decode cX3_turned 174 = .ok (.lload 5, 2) := by decide +kernel
theorem dX3_turned_176 : decode cX3_turned 176 = .ok (.ldc2_w 118, 3) := by decide +kernel
theorem dX3_turned_179 : decode cX3_turned 179 = .ok (.ldc2_w 112, 3) := by decide +kernel
theorem dX3_turned_182 : decode cX3_turned 182 = .ok (.invokestatic 153, 3) := by decide +kernel
theorem dX3_turned_185 : decode cX3_turned 185 = .ok (.goto 19, 3) := by decide +kernel
theorem dX3_turned_188 : decode cX3_turned 188 = .ok (.iload 4, 2) := by decide +kernel
theorem dX3_turned_190 : decode cX3_turned 190 = .ok (.lload 5, 2) := by decide +kernel
theorem dX3_turned_192 : decode cX3_turned 192 = .ok (.ldc2_w 100, 3) := by decide +kernel
theorem dX3_turned_195 : decode cX3_turned 195 = .ok (.ldc2_w 102, 3) := by decide +kernel
theorem dX3_turned_198 : decode cX3_turned 198 = .ok (.invokestatic 153, 3) := by decide +kernel
theorem dX3_turned_201 : decode cX3_turned 201 = .ok (.invokestatic 143, 3) := by decide +kernel
theorem dX3_turned_204 : decode cX3_turned 204 = .ok (.lreturn, 1) := by decide +kernel
set_option maxRecDepth 20000 in
theorem ggX3_numberOf_X3_isBox : GoodIn wsX3_numberOf wsX3_isBox := goodIn_r _ [4, 5, 6, 3, 7] (by decide +kernel) (by decide +kernel)
set_option maxRecDepth 20000 in
theorem gX3_numberOf_X3_isBox : GoodIn wsX3_numberOf (va_wsS RX3 74 yX3_isBox wsX3_isBox) := goodIn_app (goodIn_of _ (by decide +kernel)) ggX3_numberOf_X3_isBox
set_option maxRecDepth 20000 in
theorem ggX3_numberOf_X3_isNumber : GoodIn wsX3_numberOf wsX3_isNumber := goodIn_r _ [10, 5, 6, 3, 7] (by decide +kernel) (by decide +kernel)
set_option maxRecDepth 20000 in
theorem gX3_numberOf_X3_isNumber : GoodIn wsX3_numberOf (va_wsS RX3 71 yX3_isNumber wsX3_isNumber) := goodIn_app (goodIn_of _ (by decide +kernel)) ggX3_numberOf_X3_isNumber
theorem dX3_numberOf_0 : decode cX3_numberOf 0 = .ok (.iload_n 0, 1) := by decide +kernel
theorem dX3_numberOf_1 : decode cX3_numberOf 1 = .ok (.invokestatic 74, 3) := by decide +kernel
theorem dX3_numberOf_4 : decode cX3_numberOf 4 = .ok (.ifCond .eq 10, 3) := by decide +kernel
theorem dX3_numberOf_7 : decode cX3_numberOf 7 = .ok (.iload_n 0, 1) := by decide +kernel
theorem dX3_numberOf_8 : decode cX3_numberOf 8 = .ok (.bipush 8, 2) := by decide +kernel
theorem dX3_numberOf_10 : decode cX3_numberOf 10 = .ok (.isub, 1) := by decide +kernel
theorem dX3_numberOf_11 : decode cX3_numberOf 11 = .ok (.goto 4, 3) := by decide +kernel
theorem dX3_numberOf_14 : decode cX3_numberOf 14 = .ok (.iload_n 0, 1) := by decide +kernel
theorem dX3_numberOf_15 : decode cX3_numberOf 15 = .ok (.istore_n 1, 1) := by decide +kernel
theorem dX3_numberOf_16 : decode cX3_numberOf 16 = .ok (.iload_n 1, 1) := by decide +kernel
theorem dX3_numberOf_17 : decode cX3_numberOf 17 = .ok (.invokestatic 71, 3) := by decide +kernel
theorem dX3_numberOf_20 : decode cX3_numberOf 20 = .ok (.ifCond .eq 7, 3) := by decide +kernel
theorem dX3_numberOf_23 : decode cX3_numberOf 23 = .ok (.iload_n 1, 1) := by decide +kernel
theorem dX3_numberOf_24 : decode cX3_numberOf 24 = .ok (.goto 4, 3) := by decide +kernel
theorem dX3_numberOf_27 : decode cX3_numberOf 27 = .ok (.iconst 0, 1) := by decide +kernel
theorem dX3_numberOf_28 : decode cX3_numberOf 28 = .ok (.ireturn, 1) := by decide +kernel
theorem dX3_promotedOf_0 : decode cX3_promotedOf 0 = .ok (.iload_n 0, 1) := by decide +kernel
theorem dX3_promotedOf_1 : decode cX3_promotedOf 1 = .ok (.iconst 4, 1) := by decide +kernel
theorem dX3_promotedOf_2 : decode cX3_promotedOf 2 = .ok (.if_icmp .ge 7, 3) := by decide +kernel
theorem dX3_promotedOf_5 : decode cX3_promotedOf 5 = .ok (.iconst 4, 1) := by decide +kernel
theorem dX3_promotedOf_6 : decode cX3_promotedOf 6 = .ok (.goto 4, 3) := by decide +kernel
theorem dX3_promotedOf_9 : decode cX3_promotedOf 9 = .ok (.iload_n 0, 1) := by decide +kernel
theorem dX3_promotedOf_10 : decode cX3_promotedOf 10 = .ok (.ireturn, 1) := by decide +kernel
set_option maxRecDepth 20000 in
theorem ggX3_bothOf_X3_promotedOf : GoodIn wsX3_bothOf wsX3_promotedOf := goodIn_r _ [4] (by decide +kernel) (by decide +kernel)
set_option maxRecDepth 20000 in
theorem gX3_bothOf_X3_promotedOf : GoodIn wsX3_bothOf (va_wsS RX3 157 yX3_promotedOf wsX3_promotedOf) := goodIn_app (goodIn_of _ (by decide +kernel)) ggX3_bothOf_X3_promotedOf
theorem dX3_bothOf_0 : decode cX3_bothOf 0 = .ok (.iload_n 0, 1) := by decide +kernel
theorem dX3_bothOf_1 : decode cX3_bothOf 1 = .ok (.invokestatic 157, 3) := by decide +kernel
theorem dX3_bothOf_4 : decode cX3_bothOf 4 = .ok (.istore_n 2, 1) := by decide +kernel
theorem dX3_bothOf_5 : decode cX3_bothOf 5 = .ok (.iload_n 1, 1) := by decide +kernel
theorem dX3_bothOf_6 : decode cX3_bothOf 6 = .ok (.invokestatic 157, 3) := by decide +kernel
theorem dX3_bothOf_9 : decode cX3_bothOf 9 = .ok (.istore_n 3, 1) := by decide +kernel
theorem dX3_bothOf_10 : decode cX3_bothOf 10 = .ok (.iload_n 2, 1) := by decide +kernel
theorem dX3_bothOf_11 : decode cX3_bothOf 11 = .ok (.iload_n 3, 1) := by decide +kernel
theorem dX3_bothOf_12 : decode cX3_bothOf 12 = .ok (.if_icmp .le 7, 3) := by decide +kernel
theorem dX3_bothOf_15 : decode cX3_bothOf 15 = .ok (.iload_n 2, 1) := by decide +kernel
theorem dX3_bothOf_16 : decode cX3_bothOf 16 = .ok (.goto 4, 3) := by decide +kernel
theorem dX3_bothOf_19 : decode cX3_bothOf 19 = .ok (.iload_n 3, 1) := by decide +kernel
theorem dX3_bothOf_20 : decode cX3_bothOf 20 = .ok (.ireturn, 1) := by decide +kernel
set_option maxRecDepth 20000 in
theorem ggX3_promoted_X3_isType : GoodIn wsX3_promoted wsX3_isType := goodIn_r _ [6, 7, 8, 9, 5, 10, 23, 24, 25, 26, 27, 28, 29, 30, 31, 32] (by decide +kernel) (by decide +kernel)
set_option maxRecDepth 20000 in
theorem gX3_promoted_X3_isType : GoodIn wsX3_promoted (wsV RX3 59 RX3 yX3_isType wsX3_isType) := goodIn_app (goodIn_of _ (by decide +kernel)) ggX3_promoted_X3_isType
set_option maxRecDepth 20000 in
theorem ggX3_promoted_X3_numberOf : GoodIn wsX3_promoted wsX3_numberOf := goodIn_r _ [13, 14, 15, 5, 16, 8, 9, 10, 17, 18, 19] (by decide +kernel) (by decide +kernel)
set_option maxRecDepth 20000 in
theorem gX3_promoted_X3_numberOf : GoodIn wsX3_promoted (va_wsS RX3 161 yX3_numberOf wsX3_numberOf) := goodIn_app (goodIn_of _ (by decide +kernel)) ggX3_promoted_X3_numberOf
set_option maxRecDepth 20000 in
theorem ggX3_promoted_X3_promotedOf : GoodIn wsX3_promoted wsX3_promotedOf := goodIn_r _ [22] (by decide +kernel) (by decide +kernel)
set_option maxRecDepth 20000 in
theorem gX3_promoted_X3_promotedOf : GoodIn wsX3_promoted (va_wsS RX3 157 yX3_promotedOf wsX3_promotedOf) := goodIn_app (goodIn_of _ (by decide +kernel)) ggX3_promoted_X3_promotedOf
theorem dX3_promoted_0 : decode cX3_promoted 0 = .ok (.aload_n 0, 1) := by decide +kernel
theorem dX3_promoted_1 : decode cX3_promoted 1 = .ok (.iconst 0, 1) := by decide +kernel
theorem dX3_promoted_2 : decode cX3_promoted 2 = .ok (.putfield 40, 3) := by decide +kernel
theorem dX3_promoted_5 : decode cX3_promoted 5 = .ok (.aload_n 0, 1) := by decide +kernel
theorem dX3_promoted_6 : decode cX3_promoted 6 = .ok (.iload_n 1, 1) := by decide +kernel
theorem dX3_promoted_7 : decode cX3_promoted 7 = .ok (.invokevirtual 59, 3) := by decide +kernel
theorem dX3_promoted_10 : decode cX3_promoted 10 = .ok (.ifCond .ne 5, 3) := by decide +kernel
theorem dX3_promoted_13 : decode cX3_promoted 13 = .ok (.iconst (-1), 1) := by decide +kernel
theorem dX3_promoted_14 : decode cX3_promoted 14 = .ok (.ireturn, 1) := by decide +kernel
theorem dX3_promoted_15 : decode cX3_promoted 15 = .ok (.iload_n 1, 1) := by decide +kernel
theorem dX3_promoted_16 : decode cX3_promoted 16 = .ok (.invokestatic 161, 3) := by decide +kernel
theorem dX3_promoted_19 : decode cX3_promoted 19 = .ok (.istore_n 2, 1) := by decide +kernel
theorem dX3_promoted_20 : decode cX3_promoted 20 = .ok (.iload_n 2, 1) := by decide +kernel
theorem dX3_promoted_21 : decode cX3_promoted 21 = .ok (.ifCond .ne 8, 3) := by decide +kernel
theorem dX3_promoted_24 : decode cX3_promoted 24 = .ok (.bipush (-2), 2) := by decide +kernel
theorem dX3_promoted_26 : decode cX3_promoted 26 = .ok (.goto 7, 3) := by decide +kernel
theorem dX3_promoted_29 : decode cX3_promoted 29 = .ok (.iload_n 2, 1) := by decide +kernel
theorem dX3_promoted_30 : decode cX3_promoted 30 = .ok (.invokestatic 157, 3) := by decide +kernel
theorem dX3_promoted_33 : decode cX3_promoted 33 = .ok (.ireturn, 1) := by decide +kernel
set_option maxRecDepth 20000 in
theorem ggX3_both_X3_isType : GoodIn wsX3_both wsX3_isType := goodIn_r _ [6, 7, 8, 9, 5, 10, 26, 27, 28, 29, 30, 31, 32, 33, 34, 35] (by decide +kernel) (by decide +kernel)
set_option maxRecDepth 20000 in
theorem gX3_both_X3_isType : GoodIn wsX3_both (wsV RX3 59 RX3 yX3_isType wsX3_isType) := goodIn_app (goodIn_of _ (by decide +kernel)) ggX3_both_X3_isType
set_option maxRecDepth 20000 in
theorem ggX3_both_X3_numberOf : GoodIn wsX3_both wsX3_numberOf := goodIn_r _ [13, 14, 15, 5, 16, 8, 9, 10, 17, 18, 19] (by decide +kernel) (by decide +kernel)
set_option maxRecDepth 20000 in
theorem gX3_both_X3_numberOf : GoodIn wsX3_both (va_wsS RX3 161 yX3_numberOf wsX3_numberOf) := goodIn_app (goodIn_of _ (by decide +kernel)) ggX3_both_X3_numberOf
set_option maxRecDepth 20000 in
theorem ggX3_both_X3_bothOf : GoodIn wsX3_both wsX3_bothOf := goodIn_r _ [22, 23, 24, 5, 25] (by decide +kernel) (by decide +kernel)
set_option maxRecDepth 20000 in
theorem gX3_both_X3_bothOf : GoodIn wsX3_both (va_wsS RX3 164 yX3_bothOf wsX3_bothOf) := goodIn_app (goodIn_of _ (by decide +kernel)) ggX3_both_X3_bothOf
theorem dX3_both_0 : decode cX3_both 0 = .ok (.aload_n 0, 1) := by decide +kernel
theorem dX3_both_1 : decode cX3_both 1 = .ok (.iconst 0, 1) := by decide +kernel
theorem dX3_both_2 : decode cX3_both 2 = .ok (.putfield 40, 3) := by decide +kernel
theorem dX3_both_5 : decode cX3_both 5 = .ok (.aload_n 0, 1) := by decide +kernel
theorem dX3_both_6 : decode cX3_both 6 = .ok (.iload_n 1, 1) := by decide +kernel
theorem dX3_both_7 : decode cX3_both 7 = .ok (.invokevirtual 59, 3) := by decide +kernel
theorem dX3_both_10 : decode cX3_both 10 = .ok (.ifCond .eq 11, 3) := by decide +kernel
theorem dX3_both_13 : decode cX3_both 13 = .ok (.aload_n 0, 1) := by decide +kernel
theorem dX3_both_14 : decode cX3_both 14 = .ok (.iload_n 2, 1) := by decide +kernel
theorem dX3_both_15 : decode cX3_both 15 = .ok (.invokevirtual 59, 3) := by decide +kernel
theorem dX3_both_18 : decode cX3_both 18 = .ok (.ifCond .ne 5, 3) := by decide +kernel
theorem dX3_both_21 : decode cX3_both 21 = .ok (.iconst (-1), 1) := by decide +kernel
theorem dX3_both_22 : decode cX3_both 22 = .ok (.ireturn, 1) := by decide +kernel
theorem dX3_both_23 : decode cX3_both 23 = .ok (.iload_n 1, 1) := by decide +kernel
theorem dX3_both_24 : decode cX3_both 24 = .ok (.invokestatic 161, 3) := by decide +kernel
theorem dX3_both_27 : decode cX3_both 27 = .ok (.istore_n 3, 1) := by decide +kernel
theorem dX3_both_28 : decode cX3_both 28 = .ok (.iload_n 2, 1) := by decide +kernel
theorem dX3_both_29 : decode cX3_both 29 = .ok (.invokestatic 161, 3) := by decide +kernel
theorem dX3_both_32 : decode cX3_both 32 = .ok (.istore 4, 2) := by decide +kernel
theorem dX3_both_34 : decode cX3_both 34 = .ok (.iload_n 3, 1) := by decide +kernel
theorem dX3_both_35 : decode cX3_both 35 = .ok (.ifCond .eq 8, 3) := by decide +kernel
theorem dX3_both_38 : decode cX3_both 38 = .ok (.iload 4, 2) := by decide +kernel
theorem dX3_both_40 : decode cX3_both 40 = .ok (.ifCond .ne 8, 3) := by decide +kernel
theorem dX3_both_43 : decode cX3_both 43 = .ok (.bipush (-2), 2) := by decide +kernel
theorem dX3_both_45 : decode cX3_both 45 = .ok (.goto 9, 3) := by decide +kernel
theorem dX3_both_48 : decode cX3_both 48 = .ok (.iload_n 3, 1) := by decide +kernel
theorem dX3_both_49 : decode cX3_both 49 = .ok (.iload 4, 2) := by decide +kernel
theorem dX3_both_51 : decode cX3_both 51 = .ok (.invokestatic 164, 3) := by decide +kernel
theorem dX3_both_54 : decode cX3_both 54 = .ok (.ireturn, 1) := by decide +kernel
set_option maxRecDepth 20000 in
theorem ggX3_conditional_X3_isType : GoodIn wsX3_conditional wsX3_isType := goodIn_r _ [7, 8, 9, 10, 6, 11, 27, 28, 29, 30, 31, 32, 33, 34, 35, 36] (by decide +kernel) (by decide +kernel)
set_option maxRecDepth 20000 in
theorem gX3_conditional_X3_isType : GoodIn wsX3_conditional (wsV RX3 59 RX3 yX3_isType wsX3_isType) := goodIn_app (goodIn_of _ (by decide +kernel)) ggX3_conditional_X3_isType
set_option maxRecDepth 20000 in
theorem ggX3_conditional_X3_numberOf : GoodIn wsX3_conditional wsX3_numberOf := goodIn_r _ [14, 15, 16, 6, 17, 9, 10, 11, 18, 19, 20] (by decide +kernel) (by decide +kernel)
set_option maxRecDepth 20000 in
theorem gX3_conditional_X3_numberOf : GoodIn wsX3_conditional (va_wsS RX3 161 yX3_numberOf wsX3_numberOf) := goodIn_app (goodIn_of _ (by decide +kernel)) ggX3_conditional_X3_numberOf
set_option maxRecDepth 20000 in
theorem ggX3_conditional_X3_in : GoodIn wsX3_conditional wsX3_in := goodIn_r _ [11] (by decide +kernel) (by decide +kernel)
set_option maxRecDepth 20000 in
theorem gX3_conditional_X3_in : GoodIn wsX3_conditional (va_wsS RX3 47 yX3_in wsX3_in) := goodIn_app (goodIn_of _ (by decide +kernel)) ggX3_conditional_X3_in
set_option maxRecDepth 20000 in
theorem ggX3_conditional_X3_bothOf : GoodIn wsX3_conditional wsX3_bothOf := goodIn_r _ [23, 24, 25, 6, 26] (by decide +kernel) (by decide +kernel)
set_option maxRecDepth 20000 in
theorem gX3_conditional_X3_bothOf : GoodIn wsX3_conditional (va_wsS RX3 164 yX3_bothOf wsX3_bothOf) := goodIn_app (goodIn_of _ (by decide +kernel)) ggX3_conditional_X3_bothOf
theorem dX3_conditional_0 : decode cX3_conditional 0 = .ok (.aload_n 0, 1) := by decide +kernel
theorem dX3_conditional_1 : decode cX3_conditional 1 = .ok (.iconst 0, 1) := by decide +kernel
theorem dX3_conditional_2 : decode cX3_conditional 2 = .ok (.putfield 40, 3) := by decide +kernel
theorem dX3_conditional_5 : decode cX3_conditional 5 = .ok (.aload_n 0, 1) := by decide +kernel
theorem dX3_conditional_6 : decode cX3_conditional 6 = .ok (.iload_n 1, 1) := by decide +kernel
theorem dX3_conditional_7 : decode cX3_conditional 7 = .ok (.invokevirtual 59, 3) := by decide +kernel
theorem dX3_conditional_10 : decode cX3_conditional 10 = .ok (.ifCond .eq 11, 3) := by decide +kernel
theorem dX3_conditional_13 : decode cX3_conditional 13 = .ok (.aload_n 0, 1) := by decide +kernel
theorem dX3_conditional_14 : decode cX3_conditional 14 = .ok (.iload_n 2, 1) := by decide +kernel
theorem dX3_conditional_15 : decode cX3_conditional 15 = .ok (.invokevirtual 59, 3) := by decide +kernel
theorem dX3_conditional_18 : decode cX3_conditional 18 = .ok (.ifCond .ne 5, 3) := by decide +kernel
theorem dX3_conditional_21 : decode cX3_conditional 21 = .ok (.iconst (-1), 1) := by decide +kernel
theorem dX3_conditional_22 : decode cX3_conditional 22 = .ok (.ireturn, 1) := by decide +kernel
theorem dX3_conditional_23 : decode cX3_conditional 23 = .ok (.iload_n 1, 1) := by decide +kernel
theorem dX3_conditional_24 : decode cX3_conditional 24 = .ok (.iload_n 2, 1) := by decide +kernel
theorem dX3_conditional_25 : decode cX3_conditional 25 = .ok (.if_icmp .ne 5, 3) := by decide +kernel
theorem dX3_conditional_28 : decode cX3_conditional 28 = .ok (.iload_n 1, 1) := by decide +kernel
theorem dX3_conditional_29 : decode cX3_conditional 29 = .ok (.ireturn, 1) := by decide +kernel
theorem dX3_conditional_30 : decode cX3_conditional 30 = .ok (.iload_n 1, 1) := by decide +kernel
theorem dX3_conditional_31 : decode cX3_conditional 31 = .ok (.bipush 8, 2) := by decide +kernel
theorem dX3_conditional_33 : decode cX3_conditional 33 = .ok (.if_icmp .ge 11, 3) := by decide +kernel
theorem dX3_conditional_36 : decode cX3_conditional 36 = .ok (.iload_n 2, 1) := by decide +kernel
theorem dX3_conditional_37 : decode cX3_conditional 37 = .ok (.iload_n 1, 1) := by decide +kernel
theorem dX3_conditional_38 : decode cX3_conditional 38 = .ok (.bipush 8, 2) := by decide +kernel
theorem dX3_conditional_40 : decode cX3_conditional 40 = .ok (.iadd, 1) := by decide +kernel
theorem dX3_conditional_41 : decode cX3_conditional 41 = .ok (.if_icmp .eq 17, 3) := by decide +kernel
theorem dX3_conditional_44 : decode cX3_conditional 44 = .ok (.iload_n 2, 1) := by decide +kernel
theorem dX3_conditional_45 : decode cX3_conditional 45 = .ok (.bipush 8, 2) := by decide +kernel
theorem dX3_conditional_47 : decode cX3_conditional 47 = .ok (.if_icmp .ge 22, 3) := by decide +kernel
theorem dX3_conditional_50 : decode cX3_conditional 50 = .ok (.iload_n 1, 1) := by decide +kernel
theorem dX3_conditional_51 : decode cX3_conditional 51 = .ok (.iload_n 2, 1) := by decide +kernel
theorem dX3_conditional_52 : decode cX3_conditional 52 = .ok (.bipush 8, 2) := by decide +kernel
theorem dX3_conditional_54 : decode cX3_conditional 54 = .ok (.iadd, 1) := by decide +kernel
theorem dX3_conditional_55 : decode cX3_conditional 55 = .ok (.if_icmp .ne 14, 3) := by decide +kernel
theorem dX3_conditional_58 : decode cX3_conditional 58 = .ok (.iload_n 1, 1) := by decide +kernel
theorem dX3_conditional_59 : decode cX3_conditional 59 = .ok (.iload_n 2, 1) := by decide +kernel
theorem dX3_conditional_60 : decode cX3_conditional 60 = .ok (.if_icmp .ge 7, 3) := by decide +kernel
theorem dX3_conditional_63 : decode cX3_conditional 63 = .ok (.iload_n 1, 1) := by decide +kernel
theorem dX3_conditional_64 : decode cX3_conditional 64 = .ok (.goto 4, 3) := by decide +kernel
theorem dX3_conditional_67 : decode cX3_conditional 67 = .ok (.iload_n 2, 1) := by decide +kernel
theorem dX3_conditional_68 : decode cX3_conditional 68 = .ok (.ireturn, 1) := by decide +kernel
theorem dX3_conditional_69 : decode cX3_conditional 69 = .ok (.iload_n 1, 1) := by decide +kernel
theorem dX3_conditional_70 : decode cX3_conditional 70 = .ok (.invokestatic 161, 3) := by decide +kernel
theorem dX3_conditional_73 : decode cX3_conditional 73 = .ok (.istore_n 3, 1) := by decide +kernel
theorem dX3_conditional_74 : decode cX3_conditional 74 = .ok (.iload_n 2, 1) := by decide +kernel
theorem dX3_conditional_75 : decode cX3_conditional 75 = .ok (.invokestatic 161, 3) := by decide +kernel
theorem dX3_conditional_78 : decode cX3_conditional 78 = .ok (.istore 4, 2) := by decide +kernel
theorem dX3_conditional_80 : decode cX3_conditional 80 = .ok (.iload_n 3, 1) := by decide +kernel
theorem dX3_conditional_81 : decode cX3_conditional 81 = .ok (.ifCond .le 48, 3) := by decide +kernel
theorem dX3_conditional_84 : decode cX3_conditional 84 = .ok (.iload 4, 2) := by decide +kernel
theorem dX3_conditional_86 : decode cX3_conditional 86 = .ok (.ifCond .le 43, 3) := by decide +kernel
theorem dX3_conditional_89 : decode cX3_conditional 89 = .ok (.iload_n 3, 1) := by decide +kernel
theorem dX3_conditional_90 : decode cX3_conditional 90 = .ok (.iload 4, 2) := by decide +kernel
theorem dX3_conditional_92 : decode cX3_conditional 92 = .ok (.if_icmp .ne 7, 3) := by decide +kernel
theorem dX3_conditional_95 : decode cX3_conditional 95 = .ok (.iload_n 3, 1) := by decide +kernel
theorem dX3_conditional_96 : decode cX3_conditional 96 = .ok (.goto 32, 3) := by decide +kernel
theorem dX3_conditional_99 : decode cX3_conditional 99 = .ok (.iload_n 3, 1) := by decide +kernel
theorem dX3_conditional_100 : decode cX3_conditional 100 = .ok (.iconst 2, 1) := by decide +kernel
theorem dX3_conditional_101 : decode cX3_conditional 101 = .ok (.iconst 3, 1) := by decide +kernel
theorem dX3_conditional_102 : decode cX3_conditional 102 = .ok (.invokestatic 47, 3) := by decide +kernel
theorem dX3_conditional_105 : decode cX3_conditional 105 = .ok (.ifCond .eq 17, 3) := by decide +kernel
theorem dX3_conditional_108 : decode cX3_conditional 108 = .ok (.iload 4, 2) := by decide +kernel
theorem dX3_conditional_110 : decode cX3_conditional 110 = .ok (.iconst 2, 1) := by decide +kernel
theorem dX3_conditional_111 : decode cX3_conditional 111 = .ok (.iconst 3, 1) := by decide +kernel
theorem dX3_conditional_112 : decode cX3_conditional 112 = .ok (.invokestatic 47, 3) := by decide +kernel
theorem dX3_conditional_115 : decode cX3_conditional 115 = .ok (.ifCond .eq 7, 3) := by decide +kernel
theorem dX3_conditional_118 : decode cX3_conditional 118 = .ok (.iconst 3, 1) := by decide +kernel
theorem dX3_conditional_119 : decode cX3_conditional 119 = .ok (.goto 9, 3) := by decide +kernel
theorem dX3_conditional_122 : decode cX3_conditional 122 = .ok (.iload_n 3, 1) := by decide +kernel
theorem dX3_conditional_123 : decode cX3_conditional 123 = .ok (.iload 4, 2) := by decide +kernel
theorem dX3_conditional_125 : decode cX3_conditional 125 = .ok (.invokestatic 164, 3) := by decide +kernel
theorem dX3_conditional_128 : decode cX3_conditional 128 = .ok (.ireturn, 1) := by decide +kernel
theorem dX3_conditional_129 : decode cX3_conditional 129 = .ok (.iload_n 1, 1) := by decide +kernel
theorem dX3_conditional_130 : decode cX3_conditional 130 = .ok (.bipush 8, 2) := by decide +kernel
theorem dX3_conditional_132 : decode cX3_conditional 132 = .ok (.if_icmp .ge 10, 3) := by decide +kernel
theorem dX3_conditional_135 : decode cX3_conditional 135 = .ok (.iload_n 1, 1) := by decide +kernel
theorem dX3_conditional_136 : decode cX3_conditional 136 = .ok (.bipush 8, 2) := by decide +kernel
theorem dX3_conditional_138 : decode cX3_conditional 138 = .ok (.iadd, 1) := by decide +kernel
theorem dX3_conditional_139 : decode cX3_conditional 139 = .ok (.goto 4, 3) := by decide +kernel
theorem dX3_conditional_142 : decode cX3_conditional 142 = .ok (.iload_n 1, 1) := by decide +kernel
theorem dX3_conditional_143 : decode cX3_conditional 143 = .ok (.istore 5, 2) := by decide +kernel
theorem dX3_conditional_145 : decode cX3_conditional 145 = .ok (.iload_n 2, 1) := by decide +kernel
theorem dX3_conditional_146 : decode cX3_conditional 146 = .ok (.bipush 8, 2) := by decide +kernel
theorem dX3_conditional_148 : decode cX3_conditional 148 = .ok (.if_icmp .ge 10, 3) := by decide +kernel
theorem dX3_conditional_151 : decode cX3_conditional 151 = .ok (.iload_n 2, 1) := by decide +kernel
theorem dX3_conditional_152 : decode cX3_conditional 152 = .ok (.bipush 8, 2) := by decide +kernel
theorem dX3_conditional_154 : decode cX3_conditional 154 = .ok (.iadd, 1) := by decide +kernel
theorem dX3_conditional_155 : decode cX3_conditional 155 = .ok (.goto 4, 3) := by decide +kernel
theorem dX3_conditional_158 : decode cX3_conditional 158 = .ok (.iload_n 2, 1) := by decide +kernel
theorem dX3_conditional_159 : decode cX3_conditional 159 = .ok (.istore 6, 2) := by decide +kernel
theorem dX3_conditional_161 : decode cX3_conditional 161 = .ok (.aload_n 0, 1) := by decide +kernel
theorem dX3_conditional_162 : decode cX3_conditional 162 = .ok (.getfield 23, 3) := by decide +kernel
theorem dX3_conditional_165 : decode cX3_conditional 165 = .ok (.bipush 40, 2) := by decide +kernel
theorem dX3_conditional_167 : decode cX3_conditional 167 = .ok (.iload 5, 2) := by decide +kernel
theorem dX3_conditional_169 : decode cX3_conditional 169 = .ok (.imul, 1) := by decide +kernel
theorem dX3_conditional_170 : decode cX3_conditional 170 = .ok (.iload 6, 2) := by decide +kernel
theorem dX3_conditional_172 : decode cX3_conditional 172 = .ok (.iadd, 1) := by decide +kernel
theorem dX3_conditional_173 : decode cX3_conditional 173 = .ok (.baload, 1) := by decide +kernel
theorem dX3_conditional_174 : decode cX3_conditional 174 = .ok (.ifCond .eq 8, 3) := by decide +kernel
theorem dX3_conditional_177 : decode cX3_conditional 177 = .ok (.iload 6, 2) := by decide +kernel
theorem dX3_conditional_179 : decode cX3_conditional 179 = .ok (.goto 26, 3) := by decide +kernel
theorem dX3_conditional_182 : decode cX3_conditional 182 = .ok (.aload_n 0, 1) := by decide +kernel
theorem dX3_conditional_183 : decode cX3_conditional 183 = .ok (.getfield 23, 3) := by decide +kernel
theorem dX3_conditional_186 : decode cX3_conditional 186 = .ok (.bipush 40, 2) := by decide +kernel
theorem dX3_conditional_188 : decode cX3_conditional 188 = .ok (.iload 6, 2) := by decide +kernel
theorem dX3_conditional_190 : decode cX3_conditional 190 = .ok (.imul, 1) := by decide +kernel
theorem dX3_conditional_191 : decode cX3_conditional 191 = .ok (.iload 5, 2) := by decide +kernel
theorem dX3_conditional_193 : decode cX3_conditional 193 = .ok (.iadd, 1) := by decide +kernel
theorem dX3_conditional_194 : decode cX3_conditional 194 = .ok (.baload, 1) := by decide +kernel
theorem dX3_conditional_195 : decode cX3_conditional 195 = .ok (.ifCond .eq 8, 3) := by decide +kernel
theorem dX3_conditional_198 : decode cX3_conditional 198 = .ok (.iload 5, 2) := by decide +kernel
theorem dX3_conditional_200 : decode cX3_conditional 200 = .ok (.goto 5, 3) := by decide +kernel
theorem dX3_conditional_203 : decode cX3_conditional 203 = .ok (.bipush 16, 2) := by decide +kernel
theorem dX3_conditional_205 : decode cX3_conditional 205 = .ok (.ireturn, 1) := by decide +kernel
set_option maxRecDepth 20000 in
theorem ggX3_isObject_X3_in : GoodIn wsX3_isObject wsX3_in := goodIn_r _ [5] (by decide +kernel) (by decide +kernel)
set_option maxRecDepth 20000 in
theorem gX3_isObject_X3_in : GoodIn wsX3_isObject (va_wsS RX3 47 yX3_in wsX3_in) := goodIn_app (goodIn_of _ (by decide +kernel)) ggX3_isObject_X3_in
theorem dX3_isObject_0 : decode cX3_isObject 0 = .ok (.iload_n 1, 1) := by decide +kernel
theorem dX3_isObject_1 : decode cX3_isObject 1 = .ok (.iconst 0, 1) := by decide +kernel
theorem dX3_isObject_2 : decode cX3_isObject 2 = .ok (.aload_n 0, 1) := by decide +kernel
theorem dX3_isObject_3 : decode cX3_isObject 3 = .ok (.getfield 168, 3) := by decide +kernel
theorem dX3_isObject_6 : decode cX3_isObject 6 = .ok (.iconst 1, 1) := by decide +kernel
theorem dX3_isObject_7 : decode cX3_isObject 7 = .ok (.isub, 1) := by decide +kernel
theorem dX3_isObject_8 : decode cX3_isObject 8 = .ok (.invokestatic 47, 3) := by decide +kernel
theorem dX3_isObject_11 : decode cX3_isObject 11 = .ok (.ireturn, 1) := by decide +kernel
theorem dX3_keep_0 : decode cX3_keep 0 = .ok (.aload_n 0, 1) := by decide +kernel
theorem dX3_keep_1 : decode cX3_keep 1 = .ok (.getfield 26, 3) := by decide +kernel
theorem dX3_keep_4 : decode cX3_keep 4 = .ok (.aload_n 0, 1) := by decide +kernel
theorem dX3_keep_5 : decode cX3_keep 5 = .ok (.getfield 168, 3) := by decide +kernel
theorem dX3_keep_8 : decode cX3_keep 8 = .ok (.iload_n 1, 1) := by decide +kernel
theorem dX3_keep_9 : decode cX3_keep 9 = .ok (.iastore, 1) := by decide +kernel
theorem dX3_keep_10 : decode cX3_keep 10 = .ok (.aload_n 0, 1) := by decide +kernel
theorem dX3_keep_11 : decode cX3_keep 11 = .ok (.getfield 29, 3) := by decide +kernel
theorem dX3_keep_14 : decode cX3_keep 14 = .ok (.aload_n 0, 1) := by decide +kernel
theorem dX3_keep_15 : decode cX3_keep 15 = .ok (.getfield 168, 3) := by decide +kernel
theorem dX3_keep_18 : decode cX3_keep 18 = .ok (.lload_n 2, 1) := by decide +kernel
theorem dX3_keep_19 : decode cX3_keep 19 = .ok (.lastore, 1) := by decide +kernel
theorem dX3_keep_20 : decode cX3_keep 20 = .ok (.aload_n 0, 1) := by decide +kernel
theorem dX3_keep_21 : decode cX3_keep 21 = .ok (.dup, 1) := by decide +kernel
theorem dX3_keep_22 : decode cX3_keep 22 = .ok (.getfield 168, 3) := by decide +kernel
theorem dX3_keep_25 : decode cX3_keep 25 = .ok (.iconst 1, 1) := by decide +kernel
theorem dX3_keep_26 : decode cX3_keep 26 = .ok (.iadd, 1) := by decide +kernel
theorem dX3_keep_27 : decode cX3_keep 27 = .ok (.putfield 168, 3) := by decide +kernel
theorem dX3_keep_30 : decode cX3_keep 30 = .ok (.aload_n 0, 1) := by decide +kernel
theorem dX3_keep_31 : decode cX3_keep 31 = .ok (.getfield 168, 3) := by decide +kernel
theorem dX3_keep_34 : decode cX3_keep 34 = .ok (.iconst 1, 1) := by decide +kernel
theorem dX3_keep_35 : decode cX3_keep 35 = .ok (.isub, 1) := by decide +kernel
theorem dX3_keep_36 : decode cX3_keep 36 = .ok (.ireturn, 1) := by decide +kernel
set_option maxRecDepth 20000 in
theorem ggX3_box_X3_isType : GoodIn wsX3_box wsX3_isType := goodIn_r _ [7, 8, 9, 10, 6, 11, 42, 43, 44, 45, 46, 47, 48, 49, 50, 51] (by decide +kernel) (by decide +kernel)
set_option maxRecDepth 20000 in
theorem gX3_box_X3_isType : GoodIn wsX3_box (wsV RX3 59 RX3 yX3_isType wsX3_isType) := goodIn_app (goodIn_of _ (by decide +kernel)) ggX3_box_X3_isType
set_option maxRecDepth 20000 in
theorem ggX3_box_X3_isBox : GoodIn wsX3_box wsX3_isBox := goodIn_r _ [14, 9, 10, 6, 11] (by decide +kernel) (by decide +kernel)
set_option maxRecDepth 20000 in
theorem gX3_box_X3_isBox : GoodIn wsX3_box (va_wsS RX3 74 yX3_isBox wsX3_isBox) := goodIn_app (goodIn_of _ (by decide +kernel)) ggX3_box_X3_isBox
set_option maxRecDepth 20000 in
theorem ggX3_box_X3_isBits : GoodIn wsX3_box wsX3_isBits := goodIn_r _ [17, 18, 19, 6, 20, 21, 22, 23, 24, 25, 26, 27] (by decide +kernel) (by decide +kernel)
set_option maxRecDepth 20000 in
theorem gX3_box_X3_isBits : GoodIn wsX3_box (va_wsS RX3 130 yX3_isBits wsX3_isBits) := goodIn_app (goodIn_of _ (by decide +kernel)) ggX3_box_X3_isBits
set_option maxRecDepth 20000 in
theorem ggX3_box_X3_one : GoodIn wsX3_box wsX3_one := goodIn_r _ [30, 27, 31, 32, 33, 34, 35] (by decide +kernel) (by decide +kernel)
set_option maxRecDepth 20000 in
theorem gX3_box_X3_one : GoodIn wsX3_box (va_wsS RX3 135 yX3_one wsX3_one) := goodIn_app (goodIn_of _ (by decide +kernel)) ggX3_box_X3_one
set_option maxRecDepth 20000 in
theorem ggX3_box_X3_keep : GoodIn wsX3_box wsX3_keep := goodIn_ca (goodIn_r _ [39, 40, 2, 41, 42, 43, 44, 45, 46, 47, 48, 49, 50, 51] (by decide +kernel) (by decide +kernel)) (goodIn_sub (fun _ h => List.mem_cons_of_mem _ (List.mem_append_right _ h)) (by decide +kernel))
set_option maxRecDepth 20000 in
theorem gX3_box_X3_keep : GoodIn wsX3_box (wsV RX3 171 RX3 yX3_keep wsX3_keep) := goodIn_app (goodIn_of _ (by decide +kernel)) ggX3_box_X3_keep
theorem dX3_box_0 : decode cX3_box 0 = .ok (.aload_n 0, 1) := by decide +kernel
theorem dX3_box_1 : decode cX3_box 1 = .ok (.iconst 0, 1) := by decide +kernel
theorem dX3_box_2 : decode cX3_box 2 = .ok (.putfield 40, 3) := by decide +kernel
theorem dX3_box_5 : decode cX3_box 5 = .ok (.aload_n 0, 1) := by decide +kernel
theorem dX3_box_6 : decode cX3_box 6 = .ok (.iload_n 1, 1) := by decide +kernel
theorem dX3_box_7 : decode cX3_box 7 = .ok (.invokevirtual 59, 3) := by decide +kernel
theorem dX3_box_10 : decode cX3_box 10 = .ok (.ifCond .ne 5, 3) := by decide +kernel
theorem dX3_box_13 : decode cX3_box 13 = .ok (.iconst (-1), 1) := by decide +kernel
theorem dX3_box_14 : decode cX3_box 14 = .ok (.ireturn, 1) := by decide +kernel
theorem dX3_box_15 : decode cX3_box 15 = .ok (.iload_n 1, 1) := by decide +kernel
theorem dX3_box_16 : decode cX3_box 16 = .ok (.invokestatic 74, 3) := by decide +kernel
theorem dX3_box_19 : decode cX3_box 19 = .ok (.ifCond .eq 14, 3) := by decide +kernel
theorem dX3_box_22 : decode cX3_box 22 = .ok (.iload_n 1, 1) := by decide +kernel
theorem dX3_box_23 : decode cX3_box 23 = .ok (.bipush 8, 2) := by decide +kernel
theorem dX3_box_25 : decode cX3_box 25 = .ok (.isub, 1) := by decide +kernel
theorem dX3_box_26 : decode cX3_box 26 = .ok (.lload_n 2, 1) := by decide +kernel
theorem dX3_box_27 : decode cX3_box 27 = .ok (.invokestatic 130, 3) := by decide +kernel
theorem dX3_box_30 : decode cX3_box 30 = .ok (.ifCond .ne 6, 3) := by decide +kernel
theorem dX3_box_33 : decode cX3_box 33 = .ok (.bipush (-2), 2) := by decide +kernel
theorem dX3_box_35 : decode cX3_box 35 = .ok (.ireturn, 1) := by decide +kernel
theorem dX3_box_36 : decode cX3_box 36 = .ok (.aload_n 0, 1) := by decide +kernel
theorem dX3_box_37 : decode cX3_box 37 = .ok (.getfield 168, 3) := by decide +kernel
theorem dX3_box_40 : decode cX3_box 40 = .ok (.bipush 60, 2) := by decide +kernel
theorem dX3_box_42 : decode cX3_box 42 = .ok (.if_icmp .ne 8, 3) := by decide +kernel
theorem dX3_box_45 : decode cX3_box 45 = .ok (.bipush (-3), 2) := by decide +kernel
theorem dX3_box_47 : decode cX3_box 47 = .ok (.goto 16, 3) := by decide +kernel
theorem dX3_box_50 : decode cX3_box 50 = .ok (.aload_n 0, 1) := by decide +kernel
theorem dX3_box_51 : decode cX3_box 51 = .ok (.iload_n 1, 1) := by decide +kernel
theorem dX3_box_52 : decode cX3_box 52 = .ok (.iload_n 1, 1) := by decide +kernel
theorem dX3_box_53 : decode cX3_box 53 = .ok (.bipush 8, 2) := by decide +kernel
theorem dX3_box_55 : decode cX3_box 55 = .ok (.isub, 1) := by decide +kernel
theorem dX3_box_56 : decode cX3_box 56 = .ok (.lload_n 2, 1) := by decide +kernel
theorem dX3_box_57 : decode cX3_box 57 = .ok (.invokestatic 135, 3) := by decide +kernel
theorem dX3_box_60 : decode cX3_box 60 = .ok (.invokevirtual 171, 3) := by decide +kernel
theorem dX3_box_63 : decode cX3_box 63 = .ok (.ireturn, 1) := by decide +kernel
set_option maxRecDepth 20000 in
theorem ggX3_make_X3_isType : GoodIn wsX3_make wsX3_isType := goodIn_r _ [8, 9, 10, 11, 7, 12, 19, 20, 21, 22, 23, 24, 25, 26, 27, 28] (by decide +kernel) (by decide +kernel)
set_option maxRecDepth 20000 in
theorem gX3_make_X3_isType : GoodIn wsX3_make (wsV RX3 59 RX3 yX3_isType wsX3_isType) := goodIn_app (goodIn_of _ (by decide +kernel)) ggX3_make_X3_isType
set_option maxRecDepth 20000 in
theorem ggX3_make_X3_keep : GoodIn wsX3_make wsX3_keep := goodIn_ca (goodIn_r _ [16, 17, 3, 18, 19, 20, 21, 22, 23, 24, 25, 26, 27, 28] (by decide +kernel) (by decide +kernel)) (goodIn_sub (fun _ h => List.mem_cons_of_mem _ (List.mem_append_right _ h)) (by decide +kernel))
set_option maxRecDepth 20000 in
theorem gX3_make_X3_keep : GoodIn wsX3_make (wsV RX3 171 RX3 yX3_keep wsX3_keep) := goodIn_app (goodIn_of _ (by decide +kernel)) ggX3_make_X3_keep
theorem dX3_make_0 : decode cX3_make 0 = .ok (.aload_n 0, 1) := by decide +kernel
theorem dX3_make_1 : decode cX3_make 1 = .ok (.iconst 0, 1) := by decide +kernel
theorem dX3_make_2 : decode cX3_make 2 = .ok (.putfield 40, 3) := by decide +kernel
theorem dX3_make_5 : decode cX3_make 5 = .ok (.aload_n 0, 1) := by decide +kernel
theorem dX3_make_6 : decode cX3_make 6 = .ok (.iload_n 1, 1) := by decide +kernel
theorem dX3_make_7 : decode cX3_make 7 = .ok (.invokevirtual 59, 3) := by decide +kernel
theorem dX3_make_10 : decode cX3_make 10 = .ok (.ifCond .ne 5, 3) := by decide +kernel
theorem dX3_make_13 : decode cX3_make 13 = .ok (.iconst (-1), 1) := by decide +kernel
theorem dX3_make_14 : decode cX3_make 14 = .ok (.ireturn, 1) := by decide +kernel
theorem dX3_make_15 : decode cX3_make 15 = .ok (.iload_n 1, 1) := by decide +kernel
theorem dX3_make_16 : decode cX3_make 16 = .ok (.bipush 16, 2) := by decide +kernel
theorem dX3_make_18 : decode cX3_make 18 = .ok (.if_icmp .eq 41, 3) := by decide +kernel
theorem dX3_make_21 : decode cX3_make 21 = .ok (.iload_n 1, 1) := by decide +kernel
theorem dX3_make_22 : decode cX3_make 22 = .ok (.bipush 21, 2) := by decide +kernel
theorem dX3_make_24 : decode cX3_make 24 = .ok (.if_icmp .eq 35, 3) := by decide +kernel
theorem dX3_make_27 : decode cX3_make 27 = .ok (.iload_n 1, 1) := by decide +kernel
theorem dX3_make_28 : decode cX3_make 28 = .ok (.bipush 22, 2) := by decide +kernel
theorem dX3_make_30 : decode cX3_make 30 = .ok (.if_icmp .eq 29, 3) := by decide +kernel
theorem dX3_make_33 : decode cX3_make 33 = .ok (.iload_n 1, 1) := by decide +kernel
theorem dX3_make_34 : decode cX3_make 34 = .ok (.bipush 22, 2) := by decide +kernel
theorem dX3_make_36 : decode cX3_make 36 = .ok (.if_icmp .le 27, 3) := by decide +kernel
theorem dX3_make_39 : decode cX3_make 39 = .ok (.aload_n 0, 1) := by decide +kernel
theorem dX3_make_40 : decode cX3_make 40 = .ok (.getfield 7, 3) := by decide +kernel
theorem dX3_make_43 : decode cX3_make 43 = .ok (.iload_n 1, 1) := by decide +kernel
theorem dX3_make_44 : decode cX3_make 44 = .ok (.iaload, 1) := by decide +kernel
theorem dX3_make_45 : decode cX3_make 45 = .ok (.iconst 1, 1) := by decide +kernel
theorem dX3_make_46 : decode cX3_make 46 = .ok (.if_icmp .eq 13, 3) := by decide +kernel
theorem dX3_make_49 : decode cX3_make 49 = .ok (.aload_n 0, 1) := by decide +kernel
theorem dX3_make_50 : decode cX3_make 50 = .ok (.getfield 7, 3) := by decide +kernel
theorem dX3_make_53 : decode cX3_make 53 = .ok (.iload_n 1, 1) := by decide +kernel
theorem dX3_make_54 : decode cX3_make 54 = .ok (.iaload, 1) := by decide +kernel
theorem dX3_make_55 : decode cX3_make 55 = .ok (.iconst 3, 1) := by decide +kernel
theorem dX3_make_56 : decode cX3_make 56 = .ok (.if_icmp .ne 7, 3) := by decide +kernel
theorem dX3_make_59 : decode cX3_make 59 = .ok (.iconst 1, 1) := by decide +kernel
theorem dX3_make_60 : decode cX3_make 60 = .ok (.goto 4, 3) := by decide +kernel
theorem dX3_make_63 : decode cX3_make 63 = .ok (.iconst 0, 1) := by decide +kernel
theorem dX3_make_64 : decode cX3_make 64 = .ok (.istore_n 2, 1) := by decide +kernel
theorem dX3_make_65 : decode cX3_make 65 = .ok (.iload_n 2, 1) := by decide +kernel
theorem dX3_make_66 : decode cX3_make 66 = .ok (.ifCond .ne 8, 3) := by decide +kernel
theorem dX3_make_69 : decode cX3_make 69 = .ok (.bipush (-2), 2) := by decide +kernel
theorem dX3_make_71 : decode cX3_make 71 = .ok (.goto 23, 3) := by decide +kernel
theorem dX3_make_74 : decode cX3_make 74 = .ok (.aload_n 0, 1) := by decide +kernel
theorem dX3_make_75 : decode cX3_make 75 = .ok (.getfield 168, 3) := by decide +kernel
theorem dX3_make_78 : decode cX3_make 78 = .ok (.bipush 60, 2) := by decide +kernel
theorem dX3_make_80 : decode cX3_make 80 = .ok (.if_icmp .ne 8, 3) := by decide +kernel
theorem dX3_make_83 : decode cX3_make 83 = .ok (.bipush (-3), 2) := by decide +kernel
theorem dX3_make_85 : decode cX3_make 85 = .ok (.goto 9, 3) := by decide +kernel
theorem dX3_make_88 : decode cX3_make 88 = .ok (.aload_n 0, 1) := by decide +kernel
theorem dX3_make_89 : decode cX3_make 89 = .ok (.iload_n 1, 1) := by decide +kernel
theorem dX3_make_90 : decode cX3_make 90 = .ok (.lconst 0, 1) := by decide +kernel
theorem dX3_make_91 : decode cX3_make 91 = .ok (.invokevirtual 171, 3) := by decide +kernel
theorem dX3_make_94 : decode cX3_make 94 = .ok (.ireturn, 1) := by decide +kernel
set_option maxRecDepth 20000 in
theorem ggX3_typeOf_X3_isObject : GoodIn wsX3_typeOf wsX3_isObject := goodIn_r _ [7, 8, 9, 10, 6, 11, 12, 13, 14, 15, 16, 17, 18, 19, 20, 21] (by decide +kernel) (by decide +kernel)
set_option maxRecDepth 20000 in
theorem gX3_typeOf_X3_isObject : GoodIn wsX3_typeOf (wsV RX3 175 RX3 yX3_isObject wsX3_isObject) := goodIn_app (goodIn_of _ (by decide +kernel)) ggX3_typeOf_X3_isObject
theorem dX3_typeOf_0 : decode cX3_typeOf 0 = .ok (.aload_n 0, 1) := by decide +kernel
theorem dX3_typeOf_1 : decode cX3_typeOf 1 = .ok (.iconst 0, 1) := by decide +kernel
theorem dX3_typeOf_2 : decode cX3_typeOf 2 = .ok (.putfield 40, 3) := by decide +kernel
theorem dX3_typeOf_5 : decode cX3_typeOf 5 = .ok (.aload_n 0, 1) := by decide +kernel
theorem dX3_typeOf_6 : decode cX3_typeOf 6 = .ok (.iload_n 1, 1) := by decide +kernel
theorem dX3_typeOf_7 : decode cX3_typeOf 7 = .ok (.invokevirtual 175, 3) := by decide +kernel
theorem dX3_typeOf_10 : decode cX3_typeOf 10 = .ok (.ifCond .eq 12, 3) := by decide +kernel
theorem dX3_typeOf_13 : decode cX3_typeOf 13 = .ok (.aload_n 0, 1) := by decide +kernel
theorem dX3_typeOf_14 : decode cX3_typeOf 14 = .ok (.getfield 26, 3) := by decide +kernel
theorem dX3_typeOf_17 : decode cX3_typeOf 17 = .ok (.iload_n 1, 1) := by decide +kernel
theorem dX3_typeOf_18 : decode cX3_typeOf 18 = .ok (.iaload, 1) := by decide +kernel
theorem dX3_typeOf_19 : decode cX3_typeOf 19 = .ok (.goto 4, 3) := by decide +kernel
theorem dX3_typeOf_22 : decode cX3_typeOf 22 = .ok (.iconst (-1), 1) := by decide +kernel
theorem dX3_typeOf_23 : decode cX3_typeOf 23 = .ok (.ireturn, 1) := by decide +kernel
set_option maxRecDepth 20000 in
theorem ggX3_unboxed_X3_isObject : GoodIn wsX3_unboxed wsX3_isObject := goodIn_r _ [10, 11, 12, 13, 9, 14, 23, 24, 25, 26, 27, 28, 29, 30, 31, 32] (by decide +kernel) (by decide +kernel)
set_option maxRecDepth 20000 in
theorem gX3_unboxed_X3_isObject : GoodIn wsX3_unboxed (wsV RX3 175 RX3 yX3_isObject wsX3_isObject) := goodIn_app (goodIn_of _ (by decide +kernel)) ggX3_unboxed_X3_isObject
set_option maxRecDepth 20000 in
theorem ggX3_unboxed_X3_isType : GoodIn wsX3_unboxed wsX3_isType := goodIn_r _ [18, 19, 12, 13, 9, 14, 23, 24, 25, 26, 27, 28, 29, 30, 31, 32] (by decide +kernel) (by decide +kernel)
set_option maxRecDepth 20000 in
theorem gX3_unboxed_X3_isType : GoodIn wsX3_unboxed (wsV RX3 59 RX3 yX3_isType wsX3_isType) := goodIn_app (goodIn_of _ (by decide +kernel)) ggX3_unboxed_X3_isType
set_option maxRecDepth 20000 in
theorem ggX3_unboxed_X3_isBox : GoodIn wsX3_unboxed wsX3_isBox := goodIn_r _ [22, 12, 13, 9, 14] (by decide +kernel) (by decide +kernel)
set_option maxRecDepth 20000 in
theorem gX3_unboxed_X3_isBox : GoodIn wsX3_unboxed (va_wsS RX3 74 yX3_isBox wsX3_isBox) := goodIn_app (goodIn_of _ (by decide +kernel)) ggX3_unboxed_X3_isBox
theorem dX3_unboxed_0 : decode cX3_unboxed 0 = .ok (.aload_n 0, 1) := by decide +kernel
theorem dX3_unboxed_1 : decode cX3_unboxed 1 = .ok (.iconst 0, 1) := by decide +kernel
theorem dX3_unboxed_2 : decode cX3_unboxed 2 = .ok (.putfield 40, 3) := by decide +kernel
theorem dX3_unboxed_5 : decode cX3_unboxed 5 = .ok (.aload_n 0, 1) := by decide +kernel
theorem dX3_unboxed_6 : decode cX3_unboxed 6 = .ok (.iload_n 1, 1) := by decide +kernel
theorem dX3_unboxed_7 : decode cX3_unboxed 7 = .ok (.invokevirtual 175, 3) := by decide +kernel
theorem dX3_unboxed_10 : decode cX3_unboxed 10 = .ok (.ifCond .eq 11, 3) := by decide +kernel
theorem dX3_unboxed_13 : decode cX3_unboxed 13 = .ok (.aload_n 0, 1) := by decide +kernel
theorem dX3_unboxed_14 : decode cX3_unboxed 14 = .ok (.iload_n 2, 1) := by decide +kernel
theorem dX3_unboxed_15 : decode cX3_unboxed 15 = .ok (.invokevirtual 59, 3) := by decide +kernel
theorem dX3_unboxed_18 : decode cX3_unboxed 18 = .ok (.ifCond .ne 7, 3) := by decide +kernel
theorem dX3_unboxed_21 : decode cX3_unboxed 21 = .ok (.ldc2_w 128, 3) := by decide +kernel
theorem dX3_unboxed_24 : decode cX3_unboxed 24 = .ok (.lreturn, 1) := by decide +kernel
theorem dX3_unboxed_25 : decode cX3_unboxed 25 = .ok (.iload_n 2, 1) := by decide +kernel
theorem dX3_unboxed_26 : decode cX3_unboxed 26 = .ok (.invokestatic 74, 3) := by decide +kernel
theorem dX3_unboxed_29 : decode cX3_unboxed 29 = .ok (.ifCond .ne 7, 3) := by decide +kernel
theorem dX3_unboxed_32 : decode cX3_unboxed 32 = .ok (.ldc2_w 133, 3) := by decide +kernel
theorem dX3_unboxed_35 : decode cX3_unboxed 35 = .ok (.lreturn, 1) := by decide +kernel
theorem dX3_unboxed_36 : decode cX3_unboxed 36 = .ok (.aload_n 0, 1) := by decide +kernel
theorem dX3_unboxed_37 : decode cX3_unboxed 37 = .ok (.aload_n 0, 1) := by decide +kernel
theorem dX3_unboxed_38 : decode cX3_unboxed 38 = .ok (.getfield 26, 3) := by decide +kernel
theorem dX3_unboxed_41 : decode cX3_unboxed 41 = .ok (.iload_n 1, 1) := by decide +kernel
theorem dX3_unboxed_42 : decode cX3_unboxed 42 = .ok (.iaload, 1) := by decide +kernel
theorem dX3_unboxed_43 : decode cX3_unboxed 43 = .ok (.bipush 22, 2) := by decide +kernel
theorem dX3_unboxed_45 : decode cX3_unboxed 45 = .ok (.if_icmp .ne 7, 3) := by decide +kernel
theorem dX3_unboxed_48 : decode cX3_unboxed 48 = .ok (.iconst 2, 1) := by decide +kernel
theorem dX3_unboxed_49 : decode cX3_unboxed 49 = .ok (.goto 18, 3) := by decide +kernel
theorem dX3_unboxed_52 : decode cX3_unboxed 52 = .ok (.aload_n 0, 1) := by decide +kernel
theorem dX3_unboxed_53 : decode cX3_unboxed 53 = .ok (.getfield 26, 3) := by decide +kernel
theorem dX3_unboxed_56 : decode cX3_unboxed 56 = .ok (.iload_n 1, 1) := by decide +kernel
theorem dX3_unboxed_57 : decode cX3_unboxed 57 = .ok (.iaload, 1) := by decide +kernel
theorem dX3_unboxed_58 : decode cX3_unboxed 58 = .ok (.iload_n 2, 1) := by decide +kernel
theorem dX3_unboxed_59 : decode cX3_unboxed 59 = .ok (.if_icmp .eq 7, 3) := by decide +kernel
theorem dX3_unboxed_62 : decode cX3_unboxed 62 = .ok (.iconst 1, 1) := by decide +kernel
theorem dX3_unboxed_63 : decode cX3_unboxed 63 = .ok (.goto 4, 3) := by decide +kernel
theorem dX3_unboxed_66 : decode cX3_unboxed 66 = .ok (.iconst 0, 1) := by decide +kernel
theorem dX3_unboxed_67 : decode cX3_unboxed 67 = .ok (.putfield 40, 3) := by decide +kernel
theorem dX3_unboxed_70 : decode cX3_unboxed 70 = .ok (.aload_n 0, 1) := by decide +kernel
theorem dX3_unboxed_71 : decode cX3_unboxed 71 = .ok (.getfield 40, 3) := by decide +kernel
theorem dX3_unboxed_74 : decode cX3_unboxed 74 = .ok (.ifCond .le 7, 3) := by decide +kernel
theorem dX3_unboxed_77 : decode cX3_unboxed 77 = .ok (.lconst 0, 1) := by decide +kernel
theorem dX3_unboxed_78 : decode cX3_unboxed 78 = .ok (.goto 9, 3) := by decide +kernel
theorem dX3_unboxed_81 : decode cX3_unboxed 81 = .ok (.aload_n 0, 1) := by decide +kernel
theorem dX3_unboxed_82 : decode cX3_unboxed 82 = .ok (.getfield 29, 3) := by decide +kernel
theorem dX3_unboxed_85 : decode cX3_unboxed 85 = .ok (.iload_n 1, 1) := by decide +kernel
theorem dX3_unboxed_86 : decode cX3_unboxed 86 = .ok (.laload, 1) := by decide +kernel
theorem dX3_unboxed_87 : decode cX3_unboxed 87 = .ok (.lreturn, 1) := by decide +kernel
set_option maxRecDepth 20000 in
theorem ggX3_cast_X3_isObject : GoodIn wsX3_cast wsX3_isObject := goodIn_r _ [8, 9, 10, 11, 7, 12, 53, 54, 55, 56, 57, 58, 59, 60, 61, 62] (by decide +kernel) (by decide +kernel)
set_option maxRecDepth 20000 in
theorem gX3_cast_X3_isObject : GoodIn wsX3_cast (wsV RX3 175 RX3 yX3_isObject wsX3_isObject) := goodIn_app (goodIn_of _ (by decide +kernel)) ggX3_cast_X3_isObject
set_option maxRecDepth 20000 in
theorem ggX3_cast_X3_isType : GoodIn wsX3_cast wsX3_isType := goodIn_r _ [16, 17, 10, 11, 7, 12, 53, 54, 55, 56, 57, 58, 59, 60, 61, 62] (by decide +kernel) (by decide +kernel)
set_option maxRecDepth 20000 in
theorem gX3_cast_X3_isType : GoodIn wsX3_cast (wsV RX3 59 RX3 yX3_isType wsX3_isType) := goodIn_app (goodIn_of _ (by decide +kernel)) ggX3_cast_X3_isType
set_option maxRecDepth 20000 in
theorem ggX3_cast_X3_isReference : GoodIn wsX3_cast wsX3_isReference := goodIn_r _ [21] (by decide +kernel) (by decide +kernel)
set_option maxRecDepth 20000 in
theorem gX3_cast_X3_isReference : GoodIn wsX3_cast (wsV RX3 55 RX3 yX3_isReference wsX3_isReference) := goodIn_app (goodIn_of _ (by decide +kernel)) ggX3_cast_X3_isReference
set_option maxRecDepth 20000 in
theorem ggX3_cast_X3_kindOf : GoodIn wsX3_cast wsX3_kindOf := goodIn_ca (goodIn_r _ [25, 26, 27, 7, 28, 10, 11, 12, 29, 30, 31, 32, 33, 34, 35, 36, 37, 38, 39, 40, 41, 42, 3, 18, 19, 20, 21, 43, 44, 45, 46, 47, 48, 49, 50, 51, 52, 53, 54, 55, 56, 57, 58, 59, 60, 61, 62] (by decide +kernel) (by decide +kernel)) (goodIn_sub (fun _ h => List.mem_cons_of_mem _ (List.mem_append_right _ h)) (by decide +kernel))
set_option maxRecDepth 20000 in
theorem gX3_cast_X3_kindOf : GoodIn wsX3_cast (wsV RX3 86 RX3 yX3_kindOf wsX3_kindOf) := goodIn_app (goodIn_of _ (by decide +kernel)) ggX3_cast_X3_kindOf
theorem dX3_cast_0 : decode cX3_cast 0 = .ok (.aload_n 0, 1) := by decide +kernel
theorem dX3_cast_1 : decode cX3_cast 1 = .ok (.iconst 0, 1) := by decide +kernel
theorem dX3_cast_2 : decode cX3_cast 2 = .ok (.putfield 40, 3) := by decide +kernel
theorem dX3_cast_5 : decode cX3_cast 5 = .ok (.aload_n 0, 1) := by decide +kernel
theorem dX3_cast_6 : decode cX3_cast 6 = .ok (.iload_n 1, 1) := by decide +kernel
theorem dX3_cast_7 : decode cX3_cast 7 = .ok (.invokevirtual 175, 3) := by decide +kernel
theorem dX3_cast_10 : decode cX3_cast 10 = .ok (.ifCond .eq 19, 3) := by decide +kernel
theorem dX3_cast_13 : decode cX3_cast 13 = .ok (.aload_n 0, 1) := by decide +kernel
theorem dX3_cast_14 : decode cX3_cast 14 = .ok (.iload_n 2, 1) := by decide +kernel
theorem dX3_cast_15 : decode cX3_cast 15 = .ok (.invokevirtual 59, 3) := by decide +kernel
theorem dX3_cast_18 : decode cX3_cast 18 = .ok (.ifCond .eq 11, 3) := by decide +kernel
theorem dX3_cast_21 : decode cX3_cast 21 = .ok (.aload_n 0, 1) := by decide +kernel
theorem dX3_cast_22 : decode cX3_cast 22 = .ok (.iload_n 3, 1) := by decide +kernel
theorem dX3_cast_23 : decode cX3_cast 23 = .ok (.invokevirtual 59, 3) := by decide +kernel
theorem dX3_cast_26 : decode cX3_cast 26 = .ok (.ifCond .ne 5, 3) := by decide +kernel
theorem dX3_cast_29 : decode cX3_cast 29 = .ok (.iconst (-1), 1) := by decide +kernel
theorem dX3_cast_30 : decode cX3_cast 30 = .ok (.ireturn, 1) := by decide +kernel
theorem dX3_cast_31 : decode cX3_cast 31 = .ok (.aload_n 0, 1) := by decide +kernel
theorem dX3_cast_32 : decode cX3_cast 32 = .ok (.getfield 26, 3) := by decide +kernel
theorem dX3_cast_35 : decode cX3_cast 35 = .ok (.iload_n 1, 1) := by decide +kernel
theorem dX3_cast_36 : decode cX3_cast 36 = .ok (.iaload, 1) := by decide +kernel
theorem dX3_cast_37 : decode cX3_cast 37 = .ok (.istore 4, 2) := by decide +kernel
theorem dX3_cast_39 : decode cX3_cast 39 = .ok (.aload_n 0, 1) := by decide +kernel
theorem dX3_cast_40 : decode cX3_cast 40 = .ok (.iload_n 2, 1) := by decide +kernel
theorem dX3_cast_41 : decode cX3_cast 41 = .ok (.invokevirtual 55, 3) := by decide +kernel
theorem dX3_cast_44 : decode cX3_cast 44 = .ok (.ifCond .eq 18, 3) := by decide +kernel
theorem dX3_cast_47 : decode cX3_cast 47 = .ok (.aload_n 0, 1) := by decide +kernel
theorem dX3_cast_48 : decode cX3_cast 48 = .ok (.getfield 23, 3) := by decide +kernel
theorem dX3_cast_51 : decode cX3_cast 51 = .ok (.bipush 40, 2) := by decide +kernel
theorem dX3_cast_53 : decode cX3_cast 53 = .ok (.iload 4, 2) := by decide +kernel
theorem dX3_cast_55 : decode cX3_cast 55 = .ok (.imul, 1) := by decide +kernel
theorem dX3_cast_56 : decode cX3_cast 56 = .ok (.iload_n 2, 1) := by decide +kernel
theorem dX3_cast_57 : decode cX3_cast 57 = .ok (.iadd, 1) := by decide +kernel
theorem dX3_cast_58 : decode cX3_cast 58 = .ok (.baload, 1) := by decide +kernel
theorem dX3_cast_59 : decode cX3_cast 59 = .ok (.ifCond .ne 6, 3) := by decide +kernel
theorem dX3_cast_62 : decode cX3_cast 62 = .ok (.bipush (-2), 2) := by decide +kernel
theorem dX3_cast_64 : decode cX3_cast 64 = .ok (.ireturn, 1) := by decide +kernel
theorem dX3_cast_65 : decode cX3_cast 65 = .ok (.aload_n 0, 1) := by decide +kernel
theorem dX3_cast_66 : decode cX3_cast 66 = .ok (.iload_n 2, 1) := by decide +kernel
theorem dX3_cast_67 : decode cX3_cast 67 = .ok (.iload_n 3, 1) := by decide +kernel
theorem dX3_cast_68 : decode cX3_cast 68 = .ok (.iconst 3, 1) := by decide +kernel
theorem dX3_cast_69 : decode cX3_cast 69 = .ok (.invokevirtual 86, 3) := by decide +kernel
theorem dX3_cast_72 : decode cX3_cast 72 = .ok (.istore 5, 2) := by decide +kernel
theorem dX3_cast_74 : decode cX3_cast 74 = .ok (.iload 5, 2) := by decide +kernel
theorem dX3_cast_76 : decode cX3_cast 76 = .ok (.ifCond .ne 6, 3) := by decide +kernel
theorem dX3_cast_79 : decode cX3_cast 79 = .ok (.bipush (-2), 2) := by decide +kernel
theorem dX3_cast_81 : decode cX3_cast 81 = .ok (.ireturn, 1) := by decide +kernel
theorem dX3_cast_82 : decode cX3_cast 82 = .ok (.iload 4, 2) := by decide +kernel
theorem dX3_cast_84 : decode cX3_cast 84 = .ok (.bipush 22, 2) := by decide +kernel
theorem dX3_cast_86 : decode cX3_cast 86 = .ok (.if_icmp .ne 7, 3) := by decide +kernel
theorem dX3_cast_89 : decode cX3_cast 89 = .ok (.iconst 1, 1) := by decide +kernel
theorem dX3_cast_90 : decode cX3_cast 90 = .ok (.goto 4, 3) := by decide +kernel
theorem dX3_cast_93 : decode cX3_cast 93 = .ok (.iconst 0, 1) := by decide +kernel
theorem dX3_cast_94 : decode cX3_cast 94 = .ok (.istore 6, 2) := by decide +kernel
theorem dX3_cast_96 : decode cX3_cast 96 = .ok (.iload_n 3, 1) := by decide +kernel
theorem dX3_cast_97 : decode cX3_cast 97 = .ok (.bipush 8, 2) := by decide +kernel
theorem dX3_cast_99 : decode cX3_cast 99 = .ok (.if_icmp .ge 34, 3) := by decide +kernel
theorem dX3_cast_102 : decode cX3_cast 102 = .ok (.iload 6, 2) := by decide +kernel
theorem dX3_cast_104 : decode cX3_cast 104 = .ok (.ifCond .eq 7, 3) := by decide +kernel
theorem dX3_cast_107 : decode cX3_cast 107 = .ok (.iconst 2, 1) := by decide +kernel
theorem dX3_cast_108 : decode cX3_cast 108 = .ok (.goto 24, 3) := by decide +kernel
theorem dX3_cast_111 : decode cX3_cast 111 = .ok (.iload 5, 2) := by decide +kernel
theorem dX3_cast_113 : decode cX3_cast 113 = .ok (.bipush 11, 2) := by decide +kernel
theorem dX3_cast_115 : decode cX3_cast 115 = .ok (.if_icmp .ne 16, 3) := by decide +kernel
theorem dX3_cast_118 : decode cX3_cast 118 = .ok (.iload 4, 2) := by decide +kernel
theorem dX3_cast_120 : decode cX3_cast 120 = .ok (.iload_n 3, 1) := by decide +kernel
theorem dX3_cast_121 : decode cX3_cast 121 = .ok (.bipush 8, 2) := by decide +kernel
theorem dX3_cast_123 : decode cX3_cast 123 = .ok (.iadd, 1) := by decide +kernel
theorem dX3_cast_124 : decode cX3_cast 124 = .ok (.if_icmp .eq 7, 3) := by decide +kernel
theorem dX3_cast_127 : decode cX3_cast 127 = .ok (.iconst 0, 1) := by decide +kernel
theorem dX3_cast_128 : decode cX3_cast 128 = .ok (.goto 4, 3) := by decide +kernel
theorem dX3_cast_131 : decode cX3_cast 131 = .ok (.iconst 1, 1) := by decide +kernel
theorem dX3_cast_132 : decode cX3_cast 132 = .ok (.ireturn, 1) := by decide +kernel
theorem dX3_cast_133 : decode cX3_cast 133 = .ok (.aload_n 0, 1) := by decide +kernel
theorem dX3_cast_134 : decode cX3_cast 134 = .ok (.getfield 23, 3) := by decide +kernel
theorem dX3_cast_137 : decode cX3_cast 137 = .ok (.bipush 40, 2) := by decide +kernel
theorem dX3_cast_139 : decode cX3_cast 139 = .ok (.iload 4, 2) := by decide +kernel
theorem dX3_cast_141 : decode cX3_cast 141 = .ok (.imul, 1) := by decide +kernel
theorem dX3_cast_142 : decode cX3_cast 142 = .ok (.iload_n 3, 1) := by decide +kernel
theorem dX3_cast_143 : decode cX3_cast 143 = .ok (.iadd, 1) := by decide +kernel
theorem dX3_cast_144 : decode cX3_cast 144 = .ok (.baload, 1) := by decide +kernel
theorem dX3_cast_145 : decode cX3_cast 145 = .ok (.ifCond .eq 7, 3) := by decide +kernel
theorem dX3_cast_148 : decode cX3_cast 148 = .ok (.iconst 1, 1) := by decide +kernel
theorem dX3_cast_149 : decode cX3_cast 149 = .ok (.goto 4, 3) := by decide +kernel
theorem dX3_cast_152 : decode cX3_cast 152 = .ok (.iconst 0, 1) := by decide +kernel
theorem dX3_cast_153 : decode cX3_cast 153 = .ok (.ireturn, 1) := by decide +kernel
theorem dX3_count_0 : decode cX3_count 0 = .ok (.aload_n 0, 1) := by decide +kernel
theorem dX3_count_1 : decode cX3_count 1 = .ok (.iconst 0, 1) := by decide +kernel
theorem dX3_count_2 : decode cX3_count 2 = .ok (.putfield 40, 3) := by decide +kernel
theorem dX3_count_5 : decode cX3_count 5 = .ok (.iload_n 1, 1) := by decide +kernel
theorem dX3_count_6 : decode cX3_count 6 = .ok (.ifCond .ne 10, 3) := by decide +kernel
theorem dX3_count_9 : decode cX3_count 9 = .ok (.aload_n 0, 1) := by decide +kernel
theorem dX3_count_10 : decode cX3_count 10 = .ok (.getfield 44, 3) := by decide +kernel
theorem dX3_count_13 : decode cX3_count 13 = .ok (.goto 16, 3) := by decide +kernel
theorem dX3_count_16 : decode cX3_count 16 = .ok (.iload_n 1, 1) := by decide +kernel
theorem dX3_count_17 : decode cX3_count 17 = .ok (.iconst 1, 1) := by decide +kernel
theorem dX3_count_18 : decode cX3_count 18 = .ok (.if_icmp .ne 10, 3) := by decide +kernel
theorem dX3_count_21 : decode cX3_count 21 = .ok (.aload_n 0, 1) := by decide +kernel
theorem dX3_count_22 : decode cX3_count 22 = .ok (.getfield 168, 3) := by decide +kernel
theorem dX3_count_25 : decode cX3_count 25 = .ok (.goto 4, 3) := by decide +kernel
theorem dX3_count_28 : decode cX3_count 28 = .ok (.iconst (-1), 1) := by decide +kernel
theorem dX3_count_29 : decode cX3_count 29 = .ok (.ireturn, 1) := by decide +kernel
theorem dJx3273f_init_da8c8_0 : decode cJx3273f_init_da8c8 0 = .ok (.aload_n 0, 1) := by decide +kernel
theorem dJx3273f_init_da8c8_1 : decode cJx3273f_init_da8c8 1 = .ok (.invokespecial 1, 3) := by decide +kernel
theorem dJx3273f_init_da8c8_4 : decode cJx3273f_init_da8c8 4 = .ok (.return_, 1) := by decide +kernel
theorem dJ6_numberOfLeadingZeros_0f7a4_0 : decode cJ6_numberOfLeadingZeros_0f7a4 0 = .ok (.iload_n 0, 1) := by decide +kernel
theorem dJ6_numberOfLeadingZeros_0f7a4_1 : decode cJ6_numberOfLeadingZeros_0f7a4 1 = .ok (.ifCond .gt 14, 3) := by decide +kernel
theorem dJ6_numberOfLeadingZeros_0f7a4_4 : decode cJ6_numberOfLeadingZeros_0f7a4 4 = .ok (.iload_n 0, 1) := by decide +kernel
theorem dJ6_numberOfLeadingZeros_0f7a4_5 : decode cJ6_numberOfLeadingZeros_0f7a4 5 = .ok (.ifCond .ne 8, 3) := by decide +kernel
theorem dJ6_numberOfLeadingZeros_0f7a4_8 : decode cJ6_numberOfLeadingZeros_0f7a4 8 = .ok (.bipush 32, 2) := by decide +kernel
theorem dJ6_numberOfLeadingZeros_0f7a4_10 : decode cJ6_numberOfLeadingZeros_0f7a4 10 = .ok (.goto 4, 3) := by decide +kernel
theorem dJ6_numberOfLeadingZeros_0f7a4_13 : decode cJ6_numberOfLeadingZeros_0f7a4 13 = .ok (.iconst 0, 1) := by decide +kernel
theorem dJ6_numberOfLeadingZeros_0f7a4_14 : decode cJ6_numberOfLeadingZeros_0f7a4 14 = .ok (.ireturn, 1) := by decide +kernel
theorem dJ6_numberOfLeadingZeros_0f7a4_15 : decode cJ6_numberOfLeadingZeros_0f7a4 15 = .ok (.bipush 31, 2) := by decide +kernel
theorem dJ6_numberOfLeadingZeros_0f7a4_17 : decode cJ6_numberOfLeadingZeros_0f7a4 17 = .ok (.istore_n 1, 1) := by decide +kernel
theorem dJ6_numberOfLeadingZeros_0f7a4_18 : decode cJ6_numberOfLeadingZeros_0f7a4 18 = .ok (.iload_n 0, 1) := by decide +kernel
theorem dJ6_numberOfLeadingZeros_0f7a4_19 : decode cJ6_numberOfLeadingZeros_0f7a4 19 = .ok (.ldc_w 264, 3) := by decide +kernel
theorem dJ6_numberOfLeadingZeros_0f7a4_22 : decode cJ6_numberOfLeadingZeros_0f7a4 22 = .ok (.if_icmp .lt 11, 3) := by decide +kernel
theorem dJ6_numberOfLeadingZeros_0f7a4_25 : decode cJ6_numberOfLeadingZeros_0f7a4 25 = .ok (.iinc 1 (-16), 3) := by decide +kernel
theorem dJ6_numberOfLeadingZeros_0f7a4_28 : decode cJ6_numberOfLeadingZeros_0f7a4 28 = .ok (.iload_n 0, 1) := by decide +kernel
theorem dJ6_numberOfLeadingZeros_0f7a4_29 : decode cJ6_numberOfLeadingZeros_0f7a4 29 = .ok (.bipush 16, 2) := by decide +kernel
theorem dJ6_numberOfLeadingZeros_0f7a4_31 : decode cJ6_numberOfLeadingZeros_0f7a4 31 = .ok (.iushr, 1) := by decide +kernel
theorem dJ6_numberOfLeadingZeros_0f7a4_32 : decode cJ6_numberOfLeadingZeros_0f7a4 32 = .ok (.istore_n 0, 1) := by decide +kernel
theorem dJ6_numberOfLeadingZeros_0f7a4_33 : decode cJ6_numberOfLeadingZeros_0f7a4 33 = .ok (.iload_n 0, 1) := by decide +kernel
theorem dJ6_numberOfLeadingZeros_0f7a4_34 : decode cJ6_numberOfLeadingZeros_0f7a4 34 = .ok (.sipush 256, 3) := by decide +kernel
theorem dJ6_numberOfLeadingZeros_0f7a4_37 : decode cJ6_numberOfLeadingZeros_0f7a4 37 = .ok (.if_icmp .lt 11, 3) := by decide +kernel
theorem dJ6_numberOfLeadingZeros_0f7a4_40 : decode cJ6_numberOfLeadingZeros_0f7a4 40 = .ok (.iinc 1 (-8), 3) := by decide +kernel
theorem dJ6_numberOfLeadingZeros_0f7a4_43 : decode cJ6_numberOfLeadingZeros_0f7a4 43 = .ok (.iload_n 0, 1) := by decide +kernel
theorem dJ6_numberOfLeadingZeros_0f7a4_44 : decode cJ6_numberOfLeadingZeros_0f7a4 44 = .ok (.bipush 8, 2) := by decide +kernel
theorem dJ6_numberOfLeadingZeros_0f7a4_46 : decode cJ6_numberOfLeadingZeros_0f7a4 46 = .ok (.iushr, 1) := by decide +kernel
theorem dJ6_numberOfLeadingZeros_0f7a4_47 : decode cJ6_numberOfLeadingZeros_0f7a4 47 = .ok (.istore_n 0, 1) := by decide +kernel
theorem dJ6_numberOfLeadingZeros_0f7a4_48 : decode cJ6_numberOfLeadingZeros_0f7a4 48 = .ok (.iload_n 0, 1) := by decide +kernel
theorem dJ6_numberOfLeadingZeros_0f7a4_49 : decode cJ6_numberOfLeadingZeros_0f7a4 49 = .ok (.bipush 16, 2) := by decide +kernel
theorem dJ6_numberOfLeadingZeros_0f7a4_51 : decode cJ6_numberOfLeadingZeros_0f7a4 51 = .ok (.if_icmp .lt 10, 3) := by decide +kernel
theorem dJ6_numberOfLeadingZeros_0f7a4_54 : decode cJ6_numberOfLeadingZeros_0f7a4 54 = .ok (.iinc 1 (-4), 3) := by decide +kernel
theorem dJ6_numberOfLeadingZeros_0f7a4_57 : decode cJ6_numberOfLeadingZeros_0f7a4 57 = .ok (.iload_n 0, 1) := by decide +kernel
theorem dJ6_numberOfLeadingZeros_0f7a4_58 : decode cJ6_numberOfLeadingZeros_0f7a4 58 = .ok (.iconst 4, 1) := by decide +kernel
theorem dJ6_numberOfLeadingZeros_0f7a4_59 : decode cJ6_numberOfLeadingZeros_0f7a4 59 = .ok (.iushr, 1) := by decide +kernel
theorem dJ6_numberOfLeadingZeros_0f7a4_60 : decode cJ6_numberOfLeadingZeros_0f7a4 60 = .ok (.istore_n 0, 1) := by decide +kernel
theorem dJ6_numberOfLeadingZeros_0f7a4_61 : decode cJ6_numberOfLeadingZeros_0f7a4 61 = .ok (.iload_n 0, 1) := by decide +kernel
theorem dJ6_numberOfLeadingZeros_0f7a4_62 : decode cJ6_numberOfLeadingZeros_0f7a4 62 = .ok (.iconst 4, 1) := by decide +kernel
theorem dJ6_numberOfLeadingZeros_0f7a4_63 : decode cJ6_numberOfLeadingZeros_0f7a4 63 = .ok (.if_icmp .lt 10, 3) := by decide +kernel
theorem dJ6_numberOfLeadingZeros_0f7a4_66 : decode cJ6_numberOfLeadingZeros_0f7a4 66 = .ok (.iinc 1 (-2), 3) := by decide +kernel
theorem dJ6_numberOfLeadingZeros_0f7a4_69 : decode cJ6_numberOfLeadingZeros_0f7a4 69 = .ok (.iload_n 0, 1) := by decide +kernel
theorem dJ6_numberOfLeadingZeros_0f7a4_70 : decode cJ6_numberOfLeadingZeros_0f7a4 70 = .ok (.iconst 2, 1) := by decide +kernel
theorem dJ6_numberOfLeadingZeros_0f7a4_71 : decode cJ6_numberOfLeadingZeros_0f7a4 71 = .ok (.iushr, 1) := by decide +kernel
theorem dJ6_numberOfLeadingZeros_0f7a4_72 : decode cJ6_numberOfLeadingZeros_0f7a4 72 = .ok (.istore_n 0, 1) := by decide +kernel
theorem dJ6_numberOfLeadingZeros_0f7a4_73 : decode cJ6_numberOfLeadingZeros_0f7a4 73 = .ok (.iload_n 1, 1) := by decide +kernel
theorem dJ6_numberOfLeadingZeros_0f7a4_74 : decode cJ6_numberOfLeadingZeros_0f7a4 74 = .ok (.iload_n 0, 1) := by decide +kernel
theorem dJ6_numberOfLeadingZeros_0f7a4_75 : decode cJ6_numberOfLeadingZeros_0f7a4 75 = .ok (.iconst 1, 1) := by decide +kernel
theorem dJ6_numberOfLeadingZeros_0f7a4_76 : decode cJ6_numberOfLeadingZeros_0f7a4 76 = .ok (.iushr, 1) := by decide +kernel
theorem dJ6_numberOfLeadingZeros_0f7a4_77 : decode cJ6_numberOfLeadingZeros_0f7a4 77 = .ok (.isub, 1) := by decide +kernel
theorem dJ6_numberOfLeadingZeros_0f7a4_78 : decode cJ6_numberOfLeadingZeros_0f7a4 78 = .ok (.ireturn, 1) := by decide +kernel
set_option maxRecDepth 20000 in
theorem ggJ13_numberOfLeadingZeros_95d88_J6_numberOfLeadingZeros_0f7a4 : GoodIn wsJ13_numberOfLeadingZeros_95d88 wsJ6_numberOfLeadingZeros_0f7a4 := goodIn_r _ [4, 5] (by decide +kernel) (by decide +kernel)
set_option maxRecDepth 20000 in
theorem gJ13_numberOfLeadingZeros_95d88_J6_numberOfLeadingZeros_0f7a4 : GoodIn wsJ13_numberOfLeadingZeros_95d88 (va_wsS RJ13 308 yJ6_numberOfLeadingZeros_0f7a4 wsJ6_numberOfLeadingZeros_0f7a4) := goodIn_app (goodIn_of _ (by decide +kernel)) ggJ13_numberOfLeadingZeros_95d88_J6_numberOfLeadingZeros_0f7a4
theorem dJ13_numberOfLeadingZeros_95d88_0 : decode cJ13_numberOfLeadingZeros_95d88 0 = .ok (.lload_n 0, 1) := by decide +kernel
theorem dJ13_numberOfLeadingZeros_95d88_1 : decode cJ13_numberOfLeadingZeros_95d88 1 = .ok (.bipush 32, 2) := by decide +kernel
theorem dJ13_numberOfLeadingZeros_95d88_3 : decode cJ13_numberOfLeadingZeros_95d88 3 = .ok (.lushr, 1) := by decide +kernel
theorem dJ13_numberOfLeadingZeros_95d88_4 : decode cJ13_numberOfLeadingZeros_95d88 4 = .ok (.l2i, 1) := by decide +kernel
theorem dJ13_numberOfLeadingZeros_95d88_5 : decode cJ13_numberOfLeadingZeros_95d88 5 = .ok (.istore_n 2, 1) := by decide +kernel
theorem dJ13_numberOfLeadingZeros_95d88_6 : decode cJ13_numberOfLeadingZeros_95d88 6 = .ok (.iload_n 2, 1) := by decide +kernel
theorem dJ13_numberOfLeadingZeros_95d88_7 : decode cJ13_numberOfLeadingZeros_95d88 7 = .ok (.ifCond .ne 14, 3) := by decide +kernel
theorem dJ13_numberOfLeadingZeros_95d88_10 : decode cJ13_numberOfLeadingZeros_95d88 10 = .ok (.bipush 32, 2) := by decide +kernel
theorem dJ13_numberOfLeadingZeros_95d88_12 : decode cJ13_numberOfLeadingZeros_95d88 12 = .ok (.lload_n 0, 1) := by decide +kernel
theorem dJ13_numberOfLeadingZeros_95d88_13 : decode cJ13_numberOfLeadingZeros_95d88 13 = .ok (.l2i, 1) := by decide +kernel
theorem dJ13_numberOfLeadingZeros_95d88_14 : decode cJ13_numberOfLeadingZeros_95d88 14 = .ok (.invokestatic 308, 3) := by decide +kernel
theorem dJ13_numberOfLeadingZeros_95d88_17 : decode cJ13_numberOfLeadingZeros_95d88 17 = .ok (.iadd, 1) := by decide +kernel
theorem dJ13_numberOfLeadingZeros_95d88_18 : decode cJ13_numberOfLeadingZeros_95d88 18 = .ok (.goto 7, 3) := by decide +kernel
theorem dJ13_numberOfLeadingZeros_95d88_21 : decode cJ13_numberOfLeadingZeros_95d88 21 = .ok (.iload_n 2, 1) := by decide +kernel
theorem dJ13_numberOfLeadingZeros_95d88_22 : decode cJ13_numberOfLeadingZeros_95d88 22 = .ok (.invokestatic 308, 3) := by decide +kernel
theorem dJ13_numberOfLeadingZeros_95d88_25 : decode cJ13_numberOfLeadingZeros_95d88 25 = .ok (.ireturn, 1) := by decide +kernel
theorem dJ13_bitCount_95d88_0 : decode cJ13_bitCount_95d88 0 = .ok (.lload_n 0, 1) := by decide +kernel
theorem dJ13_bitCount_95d88_1 : decode cJ13_bitCount_95d88 1 = .ok (.lload_n 0, 1) := by decide +kernel
theorem dJ13_bitCount_95d88_2 : decode cJ13_bitCount_95d88 2 = .ok (.iconst 1, 1) := by decide +kernel
theorem dJ13_bitCount_95d88_3 : decode cJ13_bitCount_95d88 3 = .ok (.lushr, 1) := by decide +kernel
theorem dJ13_bitCount_95d88_4 : decode cJ13_bitCount_95d88 4 = .ok (.ldc2_w 314, 3) := by decide +kernel
theorem dJ13_bitCount_95d88_7 : decode cJ13_bitCount_95d88 7 = .ok (.land, 1) := by decide +kernel
theorem dJ13_bitCount_95d88_8 : decode cJ13_bitCount_95d88 8 = .ok (.lsub, 1) := by decide +kernel
theorem dJ13_bitCount_95d88_9 : decode cJ13_bitCount_95d88 9 = .ok (.lstore_n 0, 1) := by decide +kernel
theorem dJ13_bitCount_95d88_10 : decode cJ13_bitCount_95d88 10 = .ok (.lload_n 0, 1) := by decide +kernel
theorem dJ13_bitCount_95d88_11 : decode cJ13_bitCount_95d88 11 = .ok (.ldc2_w 316, 3) := by decide +kernel
theorem dJ13_bitCount_95d88_14 : decode cJ13_bitCount_95d88 14 = .ok (.land, 1) := by decide +kernel
theorem dJ13_bitCount_95d88_15 : decode cJ13_bitCount_95d88 15 = .ok (.lload_n 0, 1) := by decide +kernel
theorem dJ13_bitCount_95d88_16 : decode cJ13_bitCount_95d88 16 = .ok (.iconst 2, 1) := by decide +kernel
theorem dJ13_bitCount_95d88_17 : decode cJ13_bitCount_95d88 17 = .ok (.lushr, 1) := by decide +kernel
theorem dJ13_bitCount_95d88_18 : decode cJ13_bitCount_95d88 18 = .ok (.ldc2_w 316, 3) := by decide +kernel
theorem dJ13_bitCount_95d88_21 : decode cJ13_bitCount_95d88 21 = .ok (.land, 1) := by decide +kernel
theorem dJ13_bitCount_95d88_22 : decode cJ13_bitCount_95d88 22 = .ok (.ladd, 1) := by decide +kernel
theorem dJ13_bitCount_95d88_23 : decode cJ13_bitCount_95d88 23 = .ok (.lstore_n 0, 1) := by decide +kernel
theorem dJ13_bitCount_95d88_24 : decode cJ13_bitCount_95d88 24 = .ok (.lload_n 0, 1) := by decide +kernel
theorem dJ13_bitCount_95d88_25 : decode cJ13_bitCount_95d88 25 = .ok (.lload_n 0, 1) := by decide +kernel
theorem dJ13_bitCount_95d88_26 : decode cJ13_bitCount_95d88 26 = .ok (.iconst 4, 1) := by decide +kernel
theorem dJ13_bitCount_95d88_27 : decode cJ13_bitCount_95d88 27 = .ok (.lushr, 1) := by decide +kernel
theorem dJ13_bitCount_95d88_28 : decode cJ13_bitCount_95d88 28 = .ok (.ladd, 1) := by decide +kernel
theorem dJ13_bitCount_95d88_29 : decode cJ13_bitCount_95d88 29 = .ok (.ldc2_w 318, 3) := by decide +kernel
theorem dJ13_bitCount_95d88_32 : decode cJ13_bitCount_95d88 32 = .ok (.land, 1) := by decide +kernel
theorem dJ13_bitCount_95d88_33 : decode cJ13_bitCount_95d88 33 = .ok (.lstore_n 0, 1) := by decide +kernel
theorem dJ13_bitCount_95d88_34 : decode cJ13_bitCount_95d88 34 = .ok (.lload_n 0, 1) := by decide +kernel
theorem dJ13_bitCount_95d88_35 : decode cJ13_bitCount_95d88 35 = .ok (.lload_n 0, 1) := by decide +kernel
theorem dJ13_bitCount_95d88_36 : decode cJ13_bitCount_95d88 36 = .ok (.bipush 8, 2) := by decide +kernel
theorem dJ13_bitCount_95d88_38 : decode cJ13_bitCount_95d88 38 = .ok (.lushr, 1) := by decide +kernel
theorem dJ13_bitCount_95d88_39 : decode cJ13_bitCount_95d88 39 = .ok (.ladd, 1) := by decide +kernel
theorem dJ13_bitCount_95d88_40 : decode cJ13_bitCount_95d88 40 = .ok (.lstore_n 0, 1) := by decide +kernel
theorem dJ13_bitCount_95d88_41 : decode cJ13_bitCount_95d88 41 = .ok (.lload_n 0, 1) := by decide +kernel
theorem dJ13_bitCount_95d88_42 : decode cJ13_bitCount_95d88 42 = .ok (.lload_n 0, 1) := by decide +kernel
theorem dJ13_bitCount_95d88_43 : decode cJ13_bitCount_95d88 43 = .ok (.bipush 16, 2) := by decide +kernel
theorem dJ13_bitCount_95d88_45 : decode cJ13_bitCount_95d88 45 = .ok (.lushr, 1) := by decide +kernel
theorem dJ13_bitCount_95d88_46 : decode cJ13_bitCount_95d88 46 = .ok (.ladd, 1) := by decide +kernel
theorem dJ13_bitCount_95d88_47 : decode cJ13_bitCount_95d88 47 = .ok (.lstore_n 0, 1) := by decide +kernel
theorem dJ13_bitCount_95d88_48 : decode cJ13_bitCount_95d88 48 = .ok (.lload_n 0, 1) := by decide +kernel
theorem dJ13_bitCount_95d88_49 : decode cJ13_bitCount_95d88 49 = .ok (.lload_n 0, 1) := by decide +kernel
theorem dJ13_bitCount_95d88_50 : decode cJ13_bitCount_95d88 50 = .ok (.bipush 32, 2) := by decide +kernel
theorem dJ13_bitCount_95d88_52 : decode cJ13_bitCount_95d88 52 = .ok (.lushr, 1) := by decide +kernel
theorem dJ13_bitCount_95d88_53 : decode cJ13_bitCount_95d88 53 = .ok (.ladd, 1) := by decide +kernel
theorem dJ13_bitCount_95d88_54 : decode cJ13_bitCount_95d88 54 = .ok (.lstore_n 0, 1) := by decide +kernel
theorem dJ13_bitCount_95d88_55 : decode cJ13_bitCount_95d88 55 = .ok (.lload_n 0, 1) := by decide +kernel
theorem dJ13_bitCount_95d88_56 : decode cJ13_bitCount_95d88 56 = .ok (.l2i, 1) := by decide +kernel
theorem dJ13_bitCount_95d88_57 : decode cJ13_bitCount_95d88 57 = .ok (.bipush 127, 2) := by decide +kernel
theorem dJ13_bitCount_95d88_59 : decode cJ13_bitCount_95d88 59 = .ok (.iand, 1) := by decide +kernel
theorem dJ13_bitCount_95d88_60 : decode cJ13_bitCount_95d88 60 = .ok (.ireturn, 1) := by decide +kernel
theorem dJ9_max_7cf53_0 : decode cJ9_max_7cf53 0 = .ok (.iload_n 0, 1) := by decide +kernel
theorem dJ9_max_7cf53_1 : decode cJ9_max_7cf53 1 = .ok (.iload_n 1, 1) := by decide +kernel
theorem dJ9_max_7cf53_2 : decode cJ9_max_7cf53 2 = .ok (.if_icmp .lt 7, 3) := by decide +kernel
theorem dJ9_max_7cf53_5 : decode cJ9_max_7cf53 5 = .ok (.iload_n 0, 1) := by decide +kernel
theorem dJ9_max_7cf53_6 : decode cJ9_max_7cf53 6 = .ok (.goto 4, 3) := by decide +kernel
theorem dJ9_max_7cf53_9 : decode cJ9_max_7cf53 9 = .ok (.iload_n 1, 1) := by decide +kernel
theorem dJ9_max_7cf53_10 : decode cJ9_max_7cf53 10 = .ok (.ireturn, 1) := by decide +kernel
theorem dJ9_max_f86c9_0 : decode cJ9_max_f86c9 0 = .ok (.lload_n 0, 1) := by decide +kernel
theorem dJ9_max_f86c9_1 : decode cJ9_max_f86c9 1 = .ok (.lload_n 2, 1) := by decide +kernel
theorem dJ9_max_f86c9_2 : decode cJ9_max_f86c9 2 = .ok (.lcmp, 1) := by decide +kernel
theorem dJ9_max_f86c9_3 : decode cJ9_max_f86c9 3 = .ok (.ifCond .lt 7, 3) := by decide +kernel
theorem dJ9_max_f86c9_6 : decode cJ9_max_f86c9 6 = .ok (.lload_n 0, 1) := by decide +kernel
theorem dJ9_max_f86c9_7 : decode cJ9_max_f86c9 7 = .ok (.goto 4, 3) := by decide +kernel
theorem dJ9_max_f86c9_10 : decode cJ9_max_f86c9 10 = .ok (.lload_n 2, 1) := by decide +kernel
theorem dJ9_max_f86c9_11 : decode cJ9_max_f86c9 11 = .ok (.lreturn, 1) := by decide +kernel
theorem dJ9_min_f86c9_0 : decode cJ9_min_f86c9 0 = .ok (.lload_n 0, 1) := by decide +kernel
theorem dJ9_min_f86c9_1 : decode cJ9_min_f86c9 1 = .ok (.lload_n 2, 1) := by decide +kernel
theorem dJ9_min_f86c9_2 : decode cJ9_min_f86c9 2 = .ok (.lcmp, 1) := by decide +kernel
theorem dJ9_min_f86c9_3 : decode cJ9_min_f86c9 3 = .ok (.ifCond .gt 7, 3) := by decide +kernel
theorem dJ9_min_f86c9_6 : decode cJ9_min_f86c9 6 = .ok (.lload_n 0, 1) := by decide +kernel
theorem dJ9_min_f86c9_7 : decode cJ9_min_f86c9 7 = .ok (.goto 4, 3) := by decide +kernel
theorem dJ9_min_f86c9_10 : decode cJ9_min_f86c9 10 = .ok (.lload_n 2, 1) := by decide +kernel
theorem dJ9_min_f86c9_11 : decode cJ9_min_f86c9 11 = .ok (.lreturn, 1) := by decide +kernel
theorem dJx5d777_init_da8c8_0 : decode cJx5d777_init_da8c8 0 = .ok (.aload_n 0, 1) := by decide +kernel
theorem dJx5d777_init_da8c8_1 : decode cJx5d777_init_da8c8 1 = .ok (.invokespecial 1, 3) := by decide +kernel
theorem dJx5d777_init_da8c8_4 : decode cJx5d777_init_da8c8 4 = .ok (.return_, 1) := by decide +kernel
theorem dJx5d777_fillInStackTrace_cddbd_0 : decode cJx5d777_fillInStackTrace_cddbd 0 = .ok (.aload_n 0, 1) := by decide +kernel
theorem dJx5d777_fillInStackTrace_cddbd_1 : decode cJx5d777_fillInStackTrace_cddbd 1 = .ok (.getfield 10, 3) := by decide +kernel
theorem dJx5d777_fillInStackTrace_cddbd_4 : decode cJx5d777_fillInStackTrace_cddbd 4 = .ok (.ifCond .ne 11, 3) := by decide +kernel
theorem dJx5d777_fillInStackTrace_cddbd_7 : decode cJx5d777_fillInStackTrace_cddbd 7 = .ok (.aload_n 0, 1) := by decide +kernel
theorem dJx5d777_fillInStackTrace_cddbd_8 : decode cJx5d777_fillInStackTrace_cddbd 8 = .ok (.iconst 1, 1) := by decide +kernel
theorem dJx5d777_fillInStackTrace_cddbd_9 : decode cJx5d777_fillInStackTrace_cddbd 9 = .ok (.putfield 10, 3) := by decide +kernel
theorem dJx5d777_fillInStackTrace_cddbd_12 : decode cJx5d777_fillInStackTrace_cddbd 12 = .ok (.goto 24, 3) := by decide +kernel
theorem dJx5d777_fillInStackTrace_cddbd_15 : decode cJx5d777_fillInStackTrace_cddbd 15 = .ok (.aload_n 0, 1) := by decide +kernel
theorem dJx5d777_fillInStackTrace_cddbd_16 : decode cJx5d777_fillInStackTrace_cddbd 16 = .ok (.getfield 10, 3) := by decide +kernel
theorem dJx5d777_fillInStackTrace_cddbd_19 : decode cJx5d777_fillInStackTrace_cddbd 19 = .ok (.iconst 1, 1) := by decide +kernel
theorem dJx5d777_fillInStackTrace_cddbd_20 : decode cJx5d777_fillInStackTrace_cddbd 20 = .ok (.if_icmp .ne 16, 3) := by decide +kernel
theorem dJx5d777_fillInStackTrace_cddbd_23 : decode cJx5d777_fillInStackTrace_cddbd 23 = .ok (.aload_n 0, 1) := by decide +kernel
theorem dJx5d777_fillInStackTrace_cddbd_24 : decode cJx5d777_fillInStackTrace_cddbd 24 = .ok (.aload_n 0, 1) := by decide +kernel
theorem dJx5d777_fillInStackTrace_cddbd_25 : decode cJx5d777_fillInStackTrace_cddbd 25 = .ok (.invokevirtual 16, 3) := by decide +kernel
theorem dJx5d777_fillInStackTrace_cddbd_28 : decode cJx5d777_fillInStackTrace_cddbd 28 = .ok (.putfield 20, 3) := by decide +kernel
theorem dJx5d777_fillInStackTrace_cddbd_31 : decode cJx5d777_fillInStackTrace_cddbd 31 = .ok (.aload_n 0, 1) := by decide +kernel
theorem dJx5d777_fillInStackTrace_cddbd_32 : decode cJx5d777_fillInStackTrace_cddbd 32 = .ok (.iconst 2, 1) := by decide +kernel
theorem dJx5d777_fillInStackTrace_cddbd_33 : decode cJx5d777_fillInStackTrace_cddbd 33 = .ok (.putfield 10, 3) := by decide +kernel
theorem dJx5d777_fillInStackTrace_cddbd_36 : decode cJx5d777_fillInStackTrace_cddbd 36 = .ok (.aload_n 0, 1) := by decide +kernel
theorem dJx5d777_fillInStackTrace_cddbd_37 : decode cJx5d777_fillInStackTrace_cddbd 37 = .ok (.invokespecial 24, 3) := by decide +kernel
theorem dJx5d777_fillInStackTrace_cddbd_40 : decode cJx5d777_fillInStackTrace_cddbd 40 = .ok (.areturn, 1) := by decide +kernel
abbrev vwCl : List vw_C := [(RJx3273f, TJx3273f, 6), (RJx5d777, TJx5d777, 8), (RX0, TX0, 0), (RX1, TX1, 5), (RX2, TX2, 4), (RX3, TX3, 10)]
end
section
/-! ===== BEGIN exceptions that leave a method, and their catching by the caller (launches without stack traces) ===== -/
section VXA
/-! The laws vx_back, vx_callV, vx_callS, vx_callSW, vx_throw0, vx_throwS follow proofs of the library, with one case more: JvmDerived/Free/Laws.lean (Back.of_free), Shelf42/LK1.lean (callV, callS), Shelf/KitTraced.lean (throwNew0V, throwNewS). -/
/-- where a method has thrown q: the class by its name, the cell, what was written, the world -/
def vx_T (XC : String → State → State → Prop) (st : State) (q : Addr) (t : State) (mc ms : Nat) (free : Addr → Prop) : Prop :=
  ∃ (E : String) (ce : Cell) (L : List Loc), XC E st t ∧ t.heap[q]? = some ce ∧ ce.vm = .none ∧ st.vm.findClass E = some ce.cls ∧ st.WarmedH t.vm ∧ st.sameButNew ({ t with vm := st.vm } : State) L mc ms ∧ ∀ z ∈ L, free z.base
def vx_Q (Qc : Array Value → State → Outcome → State → Prop) (XC : String → State → State → Prop) (mc ms : Nat) (free : Addr → Prop) : Array Value → State → Outcome → State → Prop := fun a st o t =>
  (Qc a st o t ∧ ∃ L, FrameEnd st o t L mc ms ∧ ∀ q ∈ L, free q.base) ∨ ∃ q, o = .threw q ∧ vx_T XC st q t mc ms free
/-- a callee that returns or throws -/
def vx_Met (l : Launch) (y : MethodName) (ws : List Cond) (rm : Room) (Pc : Array Value → State → Prop) (Qc : Array Value → State → Outcome → State → Prop) (XC : String → State → State → Prop) (mc ms : Nat) (free : Addr → Prop) : Prop :=
  MetFree l y (headSpec ws rm) Pc (fun _ _ _ _ _ => True) (vx_Q Qc XC mc ms free)
def vx_Post (XC : String → State → State → Prop) (mc ms : Nat) (free : Addr → Prop) : Pt → Array Value → Addr → Pt → Prop := fun A a q B =>
  ∃ (g : JFrame) (mk : MethodId) (t : State) (L : List Loc) (E : String) (ce : Cell), B.U.heap = t.heap ∧ B.U.vm = t.vm ∧ XC E (A.U.calling g mk a) t ∧ t.heap[q]? = some ce ∧ ce.vm = .none ∧ A.U.vm.findClass E = some ce.cls ∧ B.locs = A.locs ++ L ∧ (∀ z ∈ L, free z.base) ∧ B.cells = A.cells + mc ∧ B.slots = A.slots + ms
def vx_Back (l : Launch) (R : Room) (p : Program) (e : Env) (below : List Frame) (s : State) (sargs : Array Value) (y : MethodName) (len W9 : Nat)
    (Pre : Pt → Array Value → Prop) (Post : Pt → Array Value → Option Value → Pt → Prop) (PostX : Pt → Array Value → Addr → Pt → Prop) : Prop :=
  ∀ (m : MethodId) (meth : Method) (c : Code) (A : Pt) (g : JFrame) (ig : Instr) (mk : MethodId) (a : Array Value),
    Stand p l e R s m sargs below meth c A.U A.locs A.cells A.slots → g.method = m → g.locals.size = c.maxLocals → decode c.code g.pc = .ok (ig, len) →
    2 * g.monitorRoom + (g.stack.map fun v => v.category).sum ≤ W9 → A.U.methodNamed? y = some mk → Pre A a →
    (∃ (v : Option Value) (B : Pt), Stand p l e R s m sargs below meth c B.U B.locs B.cells B.slots ∧ Post A a v B ∧
      Steps p.tables e below (doInvoke e (A.U.setTop g) [] mk a).1 (B.U.setTop { g with pc := g.pc + len, stack := v.toList ++ g.stack })) ∨
    (∃ (q : Addr) (B : Pt), Stand p l e R s m sargs below meth c B.U B.locs B.cells B.slots ∧ PostX A a q B ∧
      Steps p.tables e below (doInvoke e (A.U.setTop g) [] mk a).1 ((B.U.setTop g).pushFrame (.throwing q)))
section Payer
variable {l : Launch} {R : Room} {p : Program} {e : Env} {below : List Frame} {s : State} {sargs : Array Value} {y : MethodName} {len W9 : Nat}
theorem vx_back {ws : List Cond} {rm : Room} {Pc : Array Value → State → Prop} {Qc : Array Value → State → Outcome → State → Prop} {XC : String → State → State → Prop} {mc ms : Nat} {free : Addr → Prop} {bytes : ByteArray} {maxL : Nat} {ret : Option FieldType}
    (hM : vx_Met l y ws rm Pc Qc XC mc ms free) (hblind : FrameBlind Pc) (hrc : rm.cells = mc) (hrs : rm.slots = ms)
    (hframes : rm.frames + 1 ≤ R.frames) (hlocals : W9 + (maxL + 11) + rm.locals ≤ R.locals)
    (hws : ∀ w ∈ ws, ∀ a' U, s.WarmedH U.vm → w.before a' U = true) (hcode : Cond.code y bytes maxL ret ∈ ws) (hinit : ∀ a' U, s.WarmedH U.vm → (Cond.initialized y.cls).before a' U = true) :
    vx_Back l R p e below s sargs y len W9 (PreOf R mc ms Pc) (PostOf Qc mc ms free) (vx_Post XC mc ms free) := by
  intro m meth c A g ig mk a X hg hsize hdg hW hn hp
  have h1 : (headSpec ws rm).pre.before a A.U = true := atoms_intro fun w hw => hws w hw _ _ X.warmed
  have h2 : (Cond.code y bytes maxL ret).before a A.U = true := hws _ hcode _ _ X.warmed
  have h3 : (Cond.initialized y.cls).before a A.U = true := hinit _ _ X.warmed
  have h4 : A.cells + (headSpec ws rm).room.cells ≤ R.cells := by rw [show (headSpec ws rm).room.cells = mc from hrc]; exact hp.1
  have h5 : A.slots + (headSpec ws rm).room.slots ≤ R.slots := by rw [show (headSpec ws rm).room.slots = ms from hrs]; exact hp.2.1
  have hPc : Pc a (A.U.calling g mk a) := hblind _ _ _ _ hp.2.2
  obtain ⟨U, Ls, c0, s0⟩ := A
  dsimp only [Pt.U, Pt.locs, Pt.cells, Pt.slots] at h1 h2 h3 h4 h5 X hn hPc ⊢
  obtain ⟨methY, cY, hmY, hcY, -, hlY, -, -, -, -⟩ := Cond.code_spec hn h2
  obtain ⟨kY, hkY, -⟩ := className_of_methodNamed hn
  have hinitY : kY.init = .initialized := Cond.initialized_spec (findClass_of_methodNamed hn) hkY h3
  have h : At U g.method c below := by rw [hg]; exact X.here
  have hlocals9 : W9 + (maxL + 11) + (headSpec ws rm).room.locals ≤ R.locals := hlocals
  have happ : (headSpec ws rm).appliesLoose y e.platform (U.calling g mk a) = true :=
    Spec.appliesLoose_calling (g := g) h hdg hn hkY hinitY
      (X.room_calling (g := g) (R' := (headSpec ws rm).room) hsize hmY hcY hframes (by rw [hlY]; omega) h4 h5) h1
  obtain ⟨mid, hmid⟩ := h.above
  have hfr : (U.setTop g).frames = (.java g :: mid) ++ below := by rw [State.frames_setTop' g h.top, hmid]; rfl
  obtain ⟨o, s₂, hsteps, -, hend, hq⟩ := Steps.callFree hM p X.admits X.cas X.clock (acts := []) hfr happ hPc trivial
  have hq' : vx_Q Qc XC mc ms free a (U.calling g mk a) o s₂ := hq
  rw [State.frames_setTop' g h.top] at hend
  obtain ⟨g₀, hg0⟩ := Option.isSome_iff_exists.mp h.top
  obtain ⟨r, hr⟩ := State.topJava?_eq_some.mp hg0
  have hr' : (({ U with heap := s₂.heap, slotsUsed := s₂.slotsUsed } : State).setVm s₂.vm).frames = .java g₀ :: r := hr
  rcases hq' with ⟨hqc, L, hfe, hL⟩ | ⟨q, rfl, E, ce, L, hx, hce, hcv, hcl, hW₂, hsm, hL⟩
  · obtain ⟨⟨v, rfl⟩, hW₂, e2, q2, q3, q4, q5, q6⟩ := id hfe
    have e3 : s₂ = ({ (U.calling g mk a).setFrames s₂.frames with heap := s₂.heap, slotsUsed := s₂.slotsUsed } : State).setVm s₂.vm := by
      have : s₂ = ({ s₂ with vm := (U.calling g mk a).vm } : State).setVm s₂.vm := rfl
      rw [e2] at this
      exact this
    obtain ⟨c₂, i₂, len₂, hc₂, hd₂, hf₂⟩ := hend
    have hW' : U.WarmedH s₂.vm := hW₂
    have hcc : c₂ = c := by
      have h1 : s₂.code? g.method = U.code? g.method := by
        rw [State.code?_eq, State.code?_eq, hW'.alike.method?]
      exact Option.some.inj (hc₂.symm.trans (h1.trans h.code))
    subst hcc
    have hlen : len₂ = len := by rw [hdg] at hd₂; cases hd₂; rfl
    subst hlen
    have hs₂ : s₂ = (({ U with heap := s₂.heap, slotsUsed := s₂.slotsUsed } : State).setVm s₂.vm).setTop { g with pc := g.pc + len₂, stack := v.toList ++ g.stack } := by
      refine e3.trans ?_
      rw [hf₂, State.calling_eq h.top, State.setFrames_setFrames, State.setTop_of_frames _ hr', hr]
      rfl
    have hsame : U.sameButNew ({ U with heap := s₂.heap, slotsUsed := s₂.slotsUsed } : State) L mc ms := by
      refine ⟨?_, q2, q3, q4, q5, q6⟩
      obtain ⟨t, ht, -⟩ := State.frames_cons hr
      show ({ U with heap := s₂.heap, slotsUsed := s₂.slotsUsed } : State) = { U.setFrames U.frames with heap := s₂.heap, slotsUsed := s₂.slotsUsed }
      rw [State.setFrames_self ht]
    subst hg
    refine Or.inl ⟨v, ⟨(({ U with heap := s₂.heap, slotsUsed := s₂.slotsUsed } : State).setVm s₂.vm), Ls ++ L, c0 + mc, s0 + ms⟩,
      ⟨X.admits, X.cas, X.clock, X.frames, X.room, X.hears, X.method, X.code, (X.here.setHeapUsed s₂.heap s₂.slotsUsed).setVm hW'.alike, X.tail, State.WarmedH.trans X.warmed hW', X.limits, X.bytes, X.same.trans (hsame.setVm s.vm)⟩,
      ⟨g, mk, s₂, L, rfl, rfl, hqc, rfl, hL, rfl, rfl⟩, ?_⟩
    show Steps p.tables e below _ ((({ U with heap := s₂.heap, slotsUsed := s₂.slotsUsed } : State).setVm s₂.vm).setTop { g with pc := g.pc + len₂, stack := v.toList ++ g.stack })
    rw [← hs₂]
    exact hsteps
  · obtain ⟨e2, q2, q3, q4, q5, q6⟩ := id hsm
    have e3 : s₂ = ({ (U.calling g mk a).setFrames s₂.frames with heap := s₂.heap, slotsUsed := s₂.slotsUsed } : State).setVm s₂.vm := by
      have : s₂ = ({ s₂ with vm := (U.calling g mk a).vm } : State).setVm s₂.vm := rfl
      rw [e2] at this
      exact this
    have hf₂ : s₂.frames = .throwing q :: .java g :: U.frames.tail := hend
    have hW' : U.WarmedH s₂.vm := hW₂
    have hs₂ : s₂ = ((({ U with heap := s₂.heap, slotsUsed := s₂.slotsUsed } : State).setVm s₂.vm).setTop g).pushFrame (.throwing q) := by
      refine e3.trans ?_
      rw [hf₂, State.calling_eq h.top, State.setFrames_setFrames, State.pushFrame, State.frames_setTop _ hr', State.setTop_of_frames _ hr', State.setFrames_setFrames, hr]
      rfl
    have hsame : U.sameButNew ({ U with heap := s₂.heap, slotsUsed := s₂.slotsUsed } : State) L mc ms := by
      refine ⟨?_, q2, q3, q4, q5, q6⟩
      obtain ⟨t, ht, -⟩ := State.frames_cons hr
      show ({ U with heap := s₂.heap, slotsUsed := s₂.slotsUsed } : State) = { U.setFrames U.frames with heap := s₂.heap, slotsUsed := s₂.slotsUsed }
      rw [State.setFrames_self ht]
    subst hg
    refine Or.inr ⟨q, ⟨(({ U with heap := s₂.heap, slotsUsed := s₂.slotsUsed } : State).setVm s₂.vm), Ls ++ L, c0 + mc, s0 + ms⟩,
      ⟨X.admits, X.cas, X.clock, X.frames, X.room, X.hears, X.method, X.code, (X.here.setHeapUsed s₂.heap s₂.slotsUsed).setVm hW'.alike, X.tail, State.WarmedH.trans X.warmed hW', X.limits, X.bytes, X.same.trans (hsame.setVm s.vm)⟩,
      ⟨g, mk, s₂, L, E, ce, rfl, rfl, hx, hce, hcv, hcl, rfl, hL, rfl, rfl⟩, ?_⟩
    show Steps p.tables e below _ (((({ U with heap := s₂.heap, slotsUsed := s₂.slotsUsed } : State).setVm s₂.vm).setTop g).pushFrame (.throwing q))
    rw [← hs₂]
    exact hsteps
end Payer
section Calls
variable {p : Program} {l : Launch} {e : Env} {R : Room} {s : State} {m : MethodId} {args : Array Value} {below : List Frame} {meth : Method} {c : Code} {T : State} {locs : List Loc} {cells slots : Nat}
theorem vx_callV (X : Stand p l e R s m args below meth c T locs cells slots) (hexec : p.tables.exec = Jvm.exec) {own C : String} {index : Nat} {y : MethodName} {bytes : ByteArray} {maxL : Nat} {ret : Option FieldType}
    (hown : s.vm.findClass own = some m.cls) (hlink : (Cond.methodLink own index y).before args s = true) (hinst : (Cond.instanceMethod y).before args s = true) (hsel : (Cond.selects C y y).before args s = true)
    (hcode : (Cond.code y bytes maxL ret).before args s = true) (hy : y.cls ≠ "java/lang/invoke/MethodHandle" ∧ y.cls ≠ "java/lang/invoke/VarHandle")
    {W9 : Nat} {Pre : Pt → Array Value → Prop} {Post : Pt → Array Value → Option Value → Pt → Prop} {PostX : Pt → Array Value → Addr → Pt → Prop} (hK : vx_Back l R p e below s args y 3 W9 Pre Post PostX)
    {b : Addr} {cellB : Cell} (hcell : T.heap[b]? = some cellB) (hobj : cellB.vm.isStatics = false) (hcls : s.vm.findClass C = some cellB.cls)
    {g : JFrame} (hg : g.method = m) (hsize : g.locals.size = c.maxLocals) {argsL rest : List Value} (hlen : ∀ sig, parseMethodDescriptor y.desc = some sig → argsL.length = sig.parameters.length)
    (hstack : g.stack = argsL.reverse ++ .ref b :: rest) (hW : 2 * g.monitorRoom + (rest.map fun v => v.category).sum ≤ W9) (hdg : decode c.code g.pc = .ok (.invokevirtual index, 3))
    (hpre : ∀ vm₁, s.WarmedH vm₁ → Pre ⟨T.setVm vm₁, locs, cells, slots⟩ (Value.ref b :: argsL).toArray) :
    (∃ (v : Option Value) (vm₁ : Vm) (B : Pt), s.WarmedH vm₁ ∧ Stand p l e R s m args below meth c B.U B.locs B.cells B.slots ∧ Post ⟨T.setVm vm₁, locs, cells, slots⟩ (Value.ref b :: argsL).toArray v B ∧
      ∀ target, Steps p.tables e below (B.U.setTop { g with pc := g.pc + 3, stack := v.toList ++ rest }) target → Steps p.tables e below (T.setTop g) target) ∨
    (∃ (q : Addr) (vm₁ : Vm) (B : Pt), s.WarmedH vm₁ ∧ Stand p l e R s m args below meth c B.U B.locs B.cells B.slots ∧ PostX ⟨T.setVm vm₁, locs, cells, slots⟩ (Value.ref b :: argsL).toArray q B ∧
      Steps p.tables e below (T.setTop g) ((B.U.setTop { g with stack := rest }).pushFrame (.throwing q))) := by
  obtain ⟨mk, methM, hnamed, hmethM, hstM, habM⟩ := Cond.instanceMethod_spec hinst
  obtain ⟨methM', cM, hmethM', -, -, -, -, -, -, hsigM⟩ := Cond.code_spec hnamed hcode
  cases hmethM.symm.trans hmethM'
  obtain ⟨c2, r2, m2, q1, q2, q3, q4, kP, hkP, hkPi⟩ := Cond.selects_spec hsel
  cases hcls.symm.trans q1
  cases (State.methodFound?_of_named hnamed hy).symm.trans q2
  cases hnamed.symm.trans q3
  have hselP : selectMethod e.platform s.vm cellB.cls mk = .method mk := by rw [Launch.admits_selectMethod X.admits]; exact q4
  obtain ⟨vm₁, X₁, hstep₁⟩ := X.invokevirtual hexec hown hlink hnamed hmethM hstM hkP hkPi hy (a := b) (cell := cellB) hcell
    (fun z h => by rw [h] at hobj; cases hobj) hselP hmethM habM hkP hkPi (g := g) hg (argsL := argsL) (rest := rest) (hlen _ hsigM) hstack hdg
  rcases hK m meth c ⟨T.setVm vm₁, locs, cells, slots⟩ { g with stack := rest } (.invokevirtual index) mk (Value.ref b :: argsL).toArray X₁ hg hsize hdg hW (X₁.named hnamed) (hpre vm₁ X₁.warmed) with ⟨v, B, X', hpost, hsteps⟩ | ⟨q, B, X', hpost, hsteps⟩
  · exact Or.inl ⟨v, vm₁, B, X₁.warmed, X', hpost, fun target h => hstep₁ _ fun acts => by rw [doInvoke_state]; exact hsteps.trans h⟩
  · exact Or.inr ⟨q, vm₁, B, X₁.warmed, X', hpost, hstep₁ _ fun acts => by rw [doInvoke_state]; exact hsteps⟩
theorem vx_callS (X : Stand p l e R s m args below meth c T locs cells slots) (hexec : p.tables.exec = Jvm.exec) {own : String} {index : Nat} {y : MethodName} {bytes : ByteArray} {maxL : Nat} {ret : Option FieldType}
    (hown : s.vm.findClass own = some m.cls) (hlink : (Cond.methodLink own index y).before args s = true) (hstat : (Cond.static y).before args s = true) (hinit : (Cond.initialized y.cls).before args s = true)
    (hcode : (Cond.code y bytes maxL ret).before args s = true) (hy : y.cls ≠ "java/lang/invoke/MethodHandle" ∧ y.cls ≠ "java/lang/invoke/VarHandle")
    {W9 : Nat} {Pre : Pt → Array Value → Prop} {Post : Pt → Array Value → Option Value → Pt → Prop} {PostX : Pt → Array Value → Addr → Pt → Prop} (hK : vx_Back l R p e below s args y 3 W9 Pre Post PostX)
    {g : JFrame} (hg : g.method = m) (hsize : g.locals.size = c.maxLocals) {argsL rest : List Value} (hlen : ∀ sig, parseMethodDescriptor y.desc = some sig → argsL.length = sig.parameters.length)
    (hstack : g.stack = argsL.reverse ++ rest) (hW : 2 * g.monitorRoom + (rest.map fun v => v.category).sum ≤ W9) (hdg : decode c.code g.pc = .ok (.invokestatic index, 3))
    (hpre : ∀ vm₁, s.WarmedH vm₁ → Pre ⟨T.setVm vm₁, locs, cells, slots⟩ argsL.toArray) :
    (∃ (v : Option Value) (vm₁ : Vm) (B : Pt), s.WarmedH vm₁ ∧ Stand p l e R s m args below meth c B.U B.locs B.cells B.slots ∧ Post ⟨T.setVm vm₁, locs, cells, slots⟩ argsL.toArray v B ∧
      ∀ target, Steps p.tables e below (B.U.setTop { g with pc := g.pc + 3, stack := v.toList ++ rest }) target → Steps p.tables e below (T.setTop g) target) ∨
    (∃ (q : Addr) (vm₁ : Vm) (B : Pt), s.WarmedH vm₁ ∧ Stand p l e R s m args below meth c B.U B.locs B.cells B.slots ∧ PostX ⟨T.setVm vm₁, locs, cells, slots⟩ argsL.toArray q B ∧
      Steps p.tables e below (T.setTop g) ((B.U.setTop { g with stack := rest }).pushFrame (.throwing q))) := by
  obtain ⟨mk, hnamed⟩ := Cond.code_named hcode
  obtain ⟨methM, cM, hmethM, -, -, -, -, -, -, hsigM⟩ := Cond.code_spec hnamed hcode
  have hstatic : methM.isStatic = true := Cond.static_spec hnamed hmethM hstat
  obtain ⟨kP, hkP, -⟩ := className_of_methodNamed hnamed
  have hinitP : kP.init = .initialized := Cond.initialized_spec (findClass_of_methodNamed hnamed) hkP hinit
  obtain ⟨vm₁, X₁, hstep₁⟩ := X.invokestatic hexec hown hlink hnamed hmethM hstatic hkP hinitP hy (g := g) hg (argsL := argsL) (rest := rest) (hlen _ hsigM) hstack hdg
  rcases hK m meth c ⟨T.setVm vm₁, locs, cells, slots⟩ { g with stack := rest } (.invokestatic index) mk argsL.toArray X₁ hg hsize hdg hW (X₁.named hnamed) (hpre vm₁ X₁.warmed) with ⟨v, B, X', hpost, hsteps⟩ | ⟨q, B, X', hpost, hsteps⟩
  · exact Or.inl ⟨v, vm₁, B, X₁.warmed, X', hpost, fun target h => hstep₁ _ fun acts => by rw [doInvoke_state]; exact hsteps.trans h⟩
  · exact Or.inr ⟨q, vm₁, B, X₁.warmed, X', hpost, hstep₁ _ fun acts => by rw [doInvoke_state]; exact hsteps⟩
end Calls
theorem vx_cls {s : State} {T : State} {vm₁ : Vm} {E : String} {k : ClassId} (hW : s.WarmedH vm₁) (h : (T.setVm vm₁).vm.findClass E = some k) : s.vm.findClass E = some k := by
  have h1 : vm₁.findClass E = some k := h
  rw [hW.alike.findClass] at h1
  exact h1
/-- the method's frame g, with q thrown over it -/
def vx_W (p : Program) (l : Launch) (e : Env) (R : Room) (s : State) (m : MethodId) (args : Array Value) (below : List Frame) (meth : Method) (c : Code) (H : Heap) (locs : List Loc) (cells slots : Nat) (Q : State → Prop) (g : JFrame) (q : Addr) : Prop :=
  ∀ T : State, T.heap = H → Stand p l e R s m args below meth c T locs cells slots → ∃ t, Steps p.tables e below ((T.setTop g).pushFrame (.throwing q)) t ∧ Q t
def vx_Run (p : Program) (l : Launch) (e : Env) (R : Room) (s : State) (m : MethodId) (args : Array Value) (below : List Frame) (meth : Method) (c : Code) (H : Heap) (locs : List Loc) (cells slots mc ms : Nat) (g : JFrame) (rest : List Value) (Qa : State → Outcome → State → Prop) (XC : String → State → State → Prop) (free : Addr → Prop) : Prop :=
  ∀ T : State, T.heap = H → Stand p l e R s m args below meth c T locs cells slots →
    (∃ (v : Option Value) (st₀ t T' : State) (L : List Loc), st₀.heap = H ∧ Stand p l e R s m args below meth c T' (locs ++ L) (cells + mc) (slots + ms) ∧ (∀ q ∈ L, free q.base) ∧ T'.heap = t.heap ∧ T'.vm = t.vm ∧ Qa st₀ (.returned v) t ∧
      Goes p e below T g T' { g with pc := g.pc + 3, stack := v.toList ++ rest }) ∨
    (∃ (q : Addr) (st₀ t T' : State) (L : List Loc) (E : String) (ce : Cell), st₀.heap = H ∧ Stand p l e R s m args below meth c T' (locs ++ L) (cells + mc) (slots + ms) ∧ (∀ z ∈ L, free z.base) ∧ T'.heap = t.heap ∧ T'.vm = t.vm ∧ XC E st₀ t ∧ t.heap[q]? = some ce ∧ ce.vm = .none ∧ s.vm.findClass E = some ce.cls ∧
      Steps p.tables e below (T.setTop g) ((T'.setTop { g with stack := rest }).pushFrame (.throwing q)))
def vx_X {S : Type} (px : S → Prop) (B : String → S → State → Prop) (A : Nat → Prop) : String → State → State → Prop := fun E st t => ∃ u : S, px u ∧ B E u t ∧ va_F A st t
section Runs
variable {p : Program} {l : Launch} {e : Env} {R : Room} {s : State} {m : MethodId} {args : Array Value} {below : List Frame} {meth : Method} {c : Code} {H : Heap} {locs : List Loc} {cells slots : Nat}
variable {y : MethodName} {bytes cc : ByteArray} {maxL nL mc ms n index : Nat} {ret : Option FieldType} {ws : List Cond} {rm : Room} {Pc : Array Value → State → Prop} {Qc : Array Value → State → Outcome → State → Prop} {XC : String → State → State → Prop} {free : Addr → Prop} {Ts : List Cond} {own C : String} {b : Addr} {As rest : List Value} {g : JFrame}
theorem vx_callBack (cb : CallB R s args own index y bytes maxL ret ws rm mc ms n) (hM : vx_Met l y ws rm Pc Qc XC mc ms free) (hbl : FrameBlind Pc) : vx_Back l R p e below s args y 3 8 (PreOf R mc ms Pc) (PostOf Qc mc ms free) (vx_Post XC mc ms free) := by
  obtain ⟨hrc, hrs, hfr, hlo, hws, hcw, -, hini, -⟩ := cb
  exact vx_back (bytes := bytes) (maxL := maxL) (ret := ret) hM hbl hrc hrs hfr hlo hws hcw (fun a' U hW => word_at hW (Or.inl (by first | rfl | simp [Cond.onTables, Cond.keeps, Cond.steady])) hini)
theorem vx_runV (S : CallFix p m c cc nL s args Ts own) (hM : vx_Met l y ws rm Pc Qc XC mc ms free) (cw : CallW R s args own C index y bytes maxL ret ws rm mc ms n) (hp : PreV s H C b Pc As)
    (hg : g.method = m) (hn : As.length = n) (hsize : g.locals.size = nL) (hstack : g.stack = As.reverse ++ .ref b :: rest) (hW : 2 * g.monitorRoom + (rest.map fun v => v.category).sum ≤ 8) (hdg : decode cc g.pc = .ok (.invokevirtual index, 3)) (hf : cells + mc ≤ R.cells ∧ slots + ms ≤ R.slots) :
    vx_Run p l e R s m args below meth c H locs cells slots mc ms g rest (Qc (Value.ref b :: As).toArray) XC free := by
  have hK : vx_Back l R p e below s args y 3 8 (PreOf R mc ms Pc) (PostOf Qc mc ms free) (vx_Post XC mc ms free) := vx_callBack cw.1 hM hp.1
  obtain ⟨⟨-, -, -, -, -, -, hcode, -, hy, hlen, hl⟩, hin, hse⟩ := cw
  obtain ⟨hx, hb, hml, ho, -⟩ := S
  obtain ⟨-, ⟨cellB, hcB, hoB, hclB⟩, hPc⟩ := hp
  intro T hT X
  rcases vx_callV X hx (C := C) (bytes := bytes) (maxL := maxL) (ret := ret) ho hl hin hse hcode hy hK (by rw [hT]; exact hcB) hoB hclB hg (hsize.trans hml.symm) (argsL := As) (rest := rest) (fun sig h => hn.trans (hlen sig h)) hstack hW (by rw [hb]; exact hdg)
    (fun vm₁ hW₁ => ⟨hf.1, hf.2, hPc (T.setVm vm₁) hT hW₁⟩) with ⟨v, vm₁, ⟨U', l2, c2, s2⟩, hW₁, X', ⟨g', mk, t, L, e1, e2, hq, h1, hL, h2, h3⟩, st⟩ | ⟨q, vm₁, ⟨U', l2, c2, s2⟩, hW₁, X', ⟨g', mk, t, L, E, ce, e1, e2, hq, hce, hcv, hcl, h1, hL, h2, h3⟩, st⟩
  · dsimp only [Pt.U, Pt.locs, Pt.cells, Pt.slots] at X' e1 e2 h1 h2 h3 st
    subst h1; subst h2; subst h3
    exact Or.inl ⟨v, (T.setVm vm₁).calling g' mk (Value.ref b :: As).toArray, t, U', L, hT, X', hL, e1, e2, hq, st⟩
  · dsimp only [Pt.U, Pt.locs, Pt.cells, Pt.slots] at X' e1 e2 h1 h2 h3 st hcl
    subst h1; subst h2; subst h3
    exact Or.inr ⟨q, (T.setVm vm₁).calling g' mk (Value.ref b :: As).toArray, t, U', L, E, ce, hT, X', hL, e1, e2, hq, hce, hcv, vx_cls hW₁ hcl, st⟩
theorem vx_runS (S : CallFix p m c cc nL s args Ts own) (hM : vx_Met l y ws rm Pc Qc XC mc ms free) (cw : CallB R s args own index y bytes maxL ret ws rm mc ms n ∧ (Cond.static y).before args s = true) (hp : PreS s H Pc As)
    (hg : g.method = m) (hn : As.length = n) (hsize : g.locals.size = nL) (hstack : g.stack = As.reverse ++ rest) (hW : 2 * g.monitorRoom + (rest.map fun v => v.category).sum ≤ 8) (hdg : decode cc g.pc = .ok (.invokestatic index, 3)) (hf : cells + mc ≤ R.cells ∧ slots + ms ≤ R.slots) :
    vx_Run p l e R s m args below meth c H locs cells slots mc ms g rest (Qc As.toArray) XC free := by
  have hK : vx_Back l R p e below s args y 3 8 (PreOf R mc ms Pc) (PostOf Qc mc ms free) (vx_Post XC mc ms free) := vx_callBack cw.1 hM hp.1
  obtain ⟨⟨-, -, -, -, -, -, hcode, hini, hy, hlen, hl⟩, hstt⟩ := cw
  obtain ⟨hx, hb, hml, ho, -⟩ := S
  intro T hT X
  rcases vx_callS X hx (bytes := bytes) (maxL := maxL) (ret := ret) ho hl hstt hini hcode hy hK hg (hsize.trans hml.symm) (argsL := As) (rest := rest) (fun sig h => hn.trans (hlen sig h)) hstack hW (by rw [hb]; exact hdg)
    (fun vm₁ hW₁ => ⟨hf.1, hf.2, hp.2 (T.setVm vm₁) hT hW₁⟩) with ⟨v, vm₁, ⟨U', l2, c2, s2⟩, hW₁, X', ⟨g', mk, t, L, e1, e2, hq, h1, hL, h2, h3⟩, st⟩ | ⟨q, vm₁, ⟨U', l2, c2, s2⟩, hW₁, X', ⟨g', mk, t, L, E, ce, e1, e2, hq, hce, hcv, hcl, h1, hL, h2, h3⟩, st⟩
  · dsimp only [Pt.U, Pt.locs, Pt.cells, Pt.slots] at X' e1 e2 h1 h2 h3 st
    subst h1; subst h2; subst h3
    exact Or.inl ⟨v, (T.setVm vm₁).calling g' mk As.toArray, t, U', L, hT, X', hL, e1, e2, hq, st⟩
  · dsimp only [Pt.U, Pt.locs, Pt.cells, Pt.slots] at X' e1 e2 h1 h2 h3 st hcl
    subst h1; subst h2; subst h3
    exact Or.inr ⟨q, (T.setVm vm₁).calling g' mk As.toArray, t, U', L, E, ce, hT, X', hL, e1, e2, hq, hce, hcv, vx_cls hW₁ hcl, st⟩
end Runs
section Rows
variable {p : Program} {l : Launch} {e : Env} {R : Room} {s : State} {m : MethodId} {args : Array Value} {below : List Frame} {meth : Method} {c : Code} {H : Heap} {locs : List Loc} {cells slots : Nat} {Q : State → Prop}
variable {mc ms : Nat} {free : Addr → Prop} {A0 A1 : Nat → Prop} {H0 : Heap} {a : Array Value} {pc : Nat} {ls : Array Slot} {st0 rest : List Value}
theorem vx_keep {st₀ t T' : State} {L : List Loc} (h0 : st₀.heap = H) (e1 : T'.heap = t.heap) (hS : va_S A0 H0 H locs) (hA : ∀ q, q < H.size → A1 q → A0 q) (hf : ∀ q, free q → A0 q) (hL : ∀ q ∈ L, free q.base) (hF : va_F A1 st₀ t) :
    H.size ≤ T'.heap.size ∧ (∀ q : Nat, q < H.size → ¬ A1 q → T'.heap[q]? = H[q]?) ∧ va_S A0 H0 T'.heap (locs ++ L) := by
  obtain ⟨hz, hk⟩ := hF
  rw [h0] at hz hk
  exact ⟨by rw [e1]; exact hz, fun q h1 h2 => by rw [e1]; exact hk q h1 h2,
    ⟨Nat.le_trans hS.1 (by rw [e1]; exact hz), fun q h1 h2 => by rw [e1, hk q (Nat.lt_of_lt_of_le h1 hS.1) (fun z => h2 (hA q (Nat.lt_of_lt_of_le h1 hS.1) z))]; exact hS.2.1 q h1 h2, fun q hq => by
      rcases List.mem_append.mp hq with h | h
      · exact hS.2.2 q h
      · exact hf _ (hL q h)⟩⟩
theorem vx_calli {S SX : Type} {post : Int32 → S → Prop} {px : SX → Prop} {B : S → State → Prop} {BX : String → SX → State → Prop} {AX : Nat → Prop} (hr : vx_Run p l e R s m args below meth c H locs cells slots mc ms (F0 m pc ls st0) rest (va_Qi post B A1 a) (vx_X px BX AX) free) (hS : va_S A0 H0 H locs) (hA : ∀ q, q < H.size → A1 q → A0 q) (hf : ∀ q, free q → A0 q) (hAX : ∀ q, q < H.size → AX q → A0 q)
    (kx : ∀ (E : String) (ce : Cell) (q9 : Addr) (u : SX) (t : State) (H1 : Heap) (locs1 : List Loc), t.heap = H1 → s.vm.Alike t.vm → px u → BX E u t → H.size ≤ H1.size → (∀ q : Nat, q < H.size → ¬ AX q → H1[q]? = H[q]?) → va_S A0 H0 H1 locs1 → H1[q9]? = some ce → ce.vm = .none → s.vm.findClass E = some ce.cls → vx_W p l e R s m args below meth c H1 locs1 (cells + mc) (slots + ms) Q (F0 m pc ls rest) q9)
    (kk : ∀ (r : Int32) (u : S) (t : State) (H1 : Heap) (locs1 : List Loc), t.heap = H1 → s.vm.Alike t.vm → post r u → B u t → H.size ≤ H1.size → (∀ q : Nat, q < H.size → ¬ A1 q → H1[q]? = H[q]?) → va_S A0 H0 H1 locs1 → W p l e R s m args below meth c H1 locs1 (cells + mc) (slots + ms) Q (F0 m (pc + 3) ls (.int r :: rest))) : W p l e R s m args below meth c H locs cells slots Q (F0 m pc ls st0) := by
  intro T hT X
  rcases hr T hT X with ⟨v, st₀, t, T', L, h0, X', hL, e1, e2, ⟨⟨r, u, hv, hp, hb⟩, hF⟩, st⟩ | ⟨q, st₀, t, T', L, E, ce, h0, X', hL, e1, e2, ⟨u, hp, hb, hF⟩, hce, hcv, hcl, st⟩
  · cases hv
    obtain ⟨k1, k2, k3⟩ := vx_keep h0 e1 hS hA hf hL hF
    obtain ⟨t2, a1, b1⟩ := kk r u t T'.heap (locs ++ L) e1.symm (by rw [← e2]; exact X'.warmed.alike) hp hb k1 k2 k3 T' rfl X'
    exact ⟨t2, st t2 a1, b1⟩
  · obtain ⟨k1, k2, k3⟩ := vx_keep h0 e1 hS hAX hf hL hF
    obtain ⟨t2, a1, b1⟩ := kx E ce q u t T'.heap (locs ++ L) e1.symm (by rw [← e2]; exact X'.warmed.alike) hp hb k1 k2 k3 (by rw [e1]; exact hce) hcv hcl T' rfl X'
    exact ⟨t2, st.trans a1, b1⟩
theorem vx_calll {S SX : Type} {post : Int64 → S → Prop} {px : SX → Prop} {B : S → State → Prop} {BX : String → SX → State → Prop} {AX : Nat → Prop} (hr : vx_Run p l e R s m args below meth c H locs cells slots mc ms (F0 m pc ls st0) rest (va_Ql post B A1 a) (vx_X px BX AX) free) (hS : va_S A0 H0 H locs) (hA : ∀ q, q < H.size → A1 q → A0 q) (hf : ∀ q, free q → A0 q) (hAX : ∀ q, q < H.size → AX q → A0 q)
    (kx : ∀ (E : String) (ce : Cell) (q9 : Addr) (u : SX) (t : State) (H1 : Heap) (locs1 : List Loc), t.heap = H1 → s.vm.Alike t.vm → px u → BX E u t → H.size ≤ H1.size → (∀ q : Nat, q < H.size → ¬ AX q → H1[q]? = H[q]?) → va_S A0 H0 H1 locs1 → H1[q9]? = some ce → ce.vm = .none → s.vm.findClass E = some ce.cls → vx_W p l e R s m args below meth c H1 locs1 (cells + mc) (slots + ms) Q (F0 m pc ls rest) q9)
    (kk : ∀ (r : Int64) (u : S) (t : State) (H1 : Heap) (locs1 : List Loc), t.heap = H1 → s.vm.Alike t.vm → post r u → B u t → H.size ≤ H1.size → (∀ q : Nat, q < H.size → ¬ A1 q → H1[q]? = H[q]?) → va_S A0 H0 H1 locs1 → W p l e R s m args below meth c H1 locs1 (cells + mc) (slots + ms) Q (F0 m (pc + 3) ls (.long r :: rest))) : W p l e R s m args below meth c H locs cells slots Q (F0 m pc ls st0) := by
  intro T hT X
  rcases hr T hT X with ⟨v, st₀, t, T', L, h0, X', hL, e1, e2, ⟨⟨r, u, hv, hp, hb⟩, hF⟩, st⟩ | ⟨q, st₀, t, T', L, E, ce, h0, X', hL, e1, e2, ⟨u, hp, hb, hF⟩, hce, hcv, hcl, st⟩
  · cases hv
    obtain ⟨k1, k2, k3⟩ := vx_keep h0 e1 hS hA hf hL hF
    obtain ⟨t2, a1, b1⟩ := kk r u t T'.heap (locs ++ L) e1.symm (by rw [← e2]; exact X'.warmed.alike) hp hb k1 k2 k3 T' rfl X'
    exact ⟨t2, st t2 a1, b1⟩
  · obtain ⟨k1, k2, k3⟩ := vx_keep h0 e1 hS hAX hf hL hF
    obtain ⟨t2, a1, b1⟩ := kx E ce q u t T'.heap (locs ++ L) e1.symm (by rw [← e2]; exact X'.warmed.alike) hp hb k1 k2 k3 (by rw [e1]; exact hce) hcv hcl T' rfl X'
    exact ⟨t2, st.trans a1, b1⟩
theorem vx_callf {S SX : Type} {post : UInt32 → S → Prop} {px : SX → Prop} {B : S → State → Prop} {BX : String → SX → State → Prop} {AX : Nat → Prop} (hr : vx_Run p l e R s m args below meth c H locs cells slots mc ms (F0 m pc ls st0) rest (va_Qf post B A1 a) (vx_X px BX AX) free) (hS : va_S A0 H0 H locs) (hA : ∀ q, q < H.size → A1 q → A0 q) (hf : ∀ q, free q → A0 q) (hAX : ∀ q, q < H.size → AX q → A0 q)
    (kx : ∀ (E : String) (ce : Cell) (q9 : Addr) (u : SX) (t : State) (H1 : Heap) (locs1 : List Loc), t.heap = H1 → s.vm.Alike t.vm → px u → BX E u t → H.size ≤ H1.size → (∀ q : Nat, q < H.size → ¬ AX q → H1[q]? = H[q]?) → va_S A0 H0 H1 locs1 → H1[q9]? = some ce → ce.vm = .none → s.vm.findClass E = some ce.cls → vx_W p l e R s m args below meth c H1 locs1 (cells + mc) (slots + ms) Q (F0 m pc ls rest) q9)
    (kk : ∀ (r : UInt32) (u : S) (t : State) (H1 : Heap) (locs1 : List Loc), t.heap = H1 → s.vm.Alike t.vm → post r u → B u t → H.size ≤ H1.size → (∀ q : Nat, q < H.size → ¬ A1 q → H1[q]? = H[q]?) → va_S A0 H0 H1 locs1 → W p l e R s m args below meth c H1 locs1 (cells + mc) (slots + ms) Q (F0 m (pc + 3) ls (.float r :: rest))) : W p l e R s m args below meth c H locs cells slots Q (F0 m pc ls st0) := by
  intro T hT X
  rcases hr T hT X with ⟨v, st₀, t, T', L, h0, X', hL, e1, e2, ⟨⟨r, u, hv, hp, hb⟩, hF⟩, st⟩ | ⟨q, st₀, t, T', L, E, ce, h0, X', hL, e1, e2, ⟨u, hp, hb, hF⟩, hce, hcv, hcl, st⟩
  · cases hv
    obtain ⟨k1, k2, k3⟩ := vx_keep h0 e1 hS hA hf hL hF
    obtain ⟨t2, a1, b1⟩ := kk r u t T'.heap (locs ++ L) e1.symm (by rw [← e2]; exact X'.warmed.alike) hp hb k1 k2 k3 T' rfl X'
    exact ⟨t2, st t2 a1, b1⟩
  · obtain ⟨k1, k2, k3⟩ := vx_keep h0 e1 hS hAX hf hL hF
    obtain ⟨t2, a1, b1⟩ := kx E ce q u t T'.heap (locs ++ L) e1.symm (by rw [← e2]; exact X'.warmed.alike) hp hb k1 k2 k3 (by rw [e1]; exact hce) hcv hcl T' rfl X'
    exact ⟨t2, st.trans a1, b1⟩
theorem vx_calld {S SX : Type} {post : UInt64 → S → Prop} {px : SX → Prop} {B : S → State → Prop} {BX : String → SX → State → Prop} {AX : Nat → Prop} (hr : vx_Run p l e R s m args below meth c H locs cells slots mc ms (F0 m pc ls st0) rest (va_Qd post B A1 a) (vx_X px BX AX) free) (hS : va_S A0 H0 H locs) (hA : ∀ q, q < H.size → A1 q → A0 q) (hf : ∀ q, free q → A0 q) (hAX : ∀ q, q < H.size → AX q → A0 q)
    (kx : ∀ (E : String) (ce : Cell) (q9 : Addr) (u : SX) (t : State) (H1 : Heap) (locs1 : List Loc), t.heap = H1 → s.vm.Alike t.vm → px u → BX E u t → H.size ≤ H1.size → (∀ q : Nat, q < H.size → ¬ AX q → H1[q]? = H[q]?) → va_S A0 H0 H1 locs1 → H1[q9]? = some ce → ce.vm = .none → s.vm.findClass E = some ce.cls → vx_W p l e R s m args below meth c H1 locs1 (cells + mc) (slots + ms) Q (F0 m pc ls rest) q9)
    (kk : ∀ (r : UInt64) (u : S) (t : State) (H1 : Heap) (locs1 : List Loc), t.heap = H1 → s.vm.Alike t.vm → post r u → B u t → H.size ≤ H1.size → (∀ q : Nat, q < H.size → ¬ A1 q → H1[q]? = H[q]?) → va_S A0 H0 H1 locs1 → W p l e R s m args below meth c H1 locs1 (cells + mc) (slots + ms) Q (F0 m (pc + 3) ls (.double r :: rest))) : W p l e R s m args below meth c H locs cells slots Q (F0 m pc ls st0) := by
  intro T hT X
  rcases hr T hT X with ⟨v, st₀, t, T', L, h0, X', hL, e1, e2, ⟨⟨r, u, hv, hp, hb⟩, hF⟩, st⟩ | ⟨q, st₀, t, T', L, E, ce, h0, X', hL, e1, e2, ⟨u, hp, hb, hF⟩, hce, hcv, hcl, st⟩
  · cases hv
    obtain ⟨k1, k2, k3⟩ := vx_keep h0 e1 hS hA hf hL hF
    obtain ⟨t2, a1, b1⟩ := kk r u t T'.heap (locs ++ L) e1.symm (by rw [← e2]; exact X'.warmed.alike) hp hb k1 k2 k3 T' rfl X'
    exact ⟨t2, st t2 a1, b1⟩
  · obtain ⟨k1, k2, k3⟩ := vx_keep h0 e1 hS hAX hf hL hF
    obtain ⟨t2, a1, b1⟩ := kx E ce q u t T'.heap (locs ++ L) e1.symm (by rw [← e2]; exact X'.warmed.alike) hp hb k1 k2 k3 (by rw [e1]; exact hce) hcv hcl T' rfl X'
    exact ⟨t2, st.trans a1, b1⟩
theorem vx_callv {S SX : Type} {post : S → Prop} {px : SX → Prop} {B : S → State → Prop} {BX : String → SX → State → Prop} {AX : Nat → Prop} (hr : vx_Run p l e R s m args below meth c H locs cells slots mc ms (F0 m pc ls st0) rest (va_Qv post B A1 a) (vx_X px BX AX) free) (hS : va_S A0 H0 H locs) (hA : ∀ q, q < H.size → A1 q → A0 q) (hf : ∀ q, free q → A0 q) (hAX : ∀ q, q < H.size → AX q → A0 q)
    (kx : ∀ (E : String) (ce : Cell) (q9 : Addr) (u : SX) (t : State) (H1 : Heap) (locs1 : List Loc), t.heap = H1 → s.vm.Alike t.vm → px u → BX E u t → H.size ≤ H1.size → (∀ q : Nat, q < H.size → ¬ AX q → H1[q]? = H[q]?) → va_S A0 H0 H1 locs1 → H1[q9]? = some ce → ce.vm = .none → s.vm.findClass E = some ce.cls → vx_W p l e R s m args below meth c H1 locs1 (cells + mc) (slots + ms) Q (F0 m pc ls rest) q9)
    (kk : ∀ (u : S) (t : State) (H1 : Heap) (locs1 : List Loc), t.heap = H1 → s.vm.Alike t.vm → post u → B u t → H.size ≤ H1.size → (∀ q : Nat, q < H.size → ¬ A1 q → H1[q]? = H[q]?) → va_S A0 H0 H1 locs1 → W p l e R s m args below meth c H1 locs1 (cells + mc) (slots + ms) Q (F0 m (pc + 3) ls (rest))) : W p l e R s m args below meth c H locs cells slots Q (F0 m pc ls st0) := by
  intro T hT X
  rcases hr T hT X with ⟨v, st₀, t, T', L, h0, X', hL, e1, e2, ⟨⟨u, hv, hp, hb⟩, hF⟩, st⟩ | ⟨q, st₀, t, T', L, E, ce, h0, X', hL, e1, e2, ⟨u, hp, hb, hF⟩, hce, hcv, hcl, st⟩
  · cases hv
    obtain ⟨k1, k2, k3⟩ := vx_keep h0 e1 hS hA hf hL hF
    obtain ⟨t2, a1, b1⟩ := kk u t T'.heap (locs ++ L) e1.symm (by rw [← e2]; exact X'.warmed.alike) hp hb k1 k2 k3 T' rfl X'
    exact ⟨t2, st t2 a1, b1⟩
  · obtain ⟨k1, k2, k3⟩ := vx_keep h0 e1 hS hAX hf hL hF
    obtain ⟨t2, a1, b1⟩ := kx E ce q u t T'.heap (locs ++ L) e1.symm (by rw [← e2]; exact X'.warmed.alike) hp hb k1 k2 k3 (by rw [e1]; exact hce) hcv hcl T' rfl X'
    exact ⟨t2, st.trans a1, b1⟩
/-- caught by the row x of this method's table; the rows ahead don't take it -/
theorem vx_catch {own name : String} {E : String} {ce : Cell} {q : Addr} (hown : s.vm.findClass own = some m.cls) (pre : List ExceptionTableEntry) (x : ExceptionTableEntry) (suf : List ExceptionTableEntry) (hsplit : c.exceptionTable.toList = pre ++ x :: suf)
    (hpass : ∀ z ∈ pre, covers z pc = false ∨ (z.catchType ≠ 0 ∧ ∃ nm : String, (Cond.classLink own z.catchType nm).before args s = true ∧ va_Nc E nm s)) (hx : covers x pc = true) (h0 : x.catchType ≠ 0)
    (hlink : (Cond.classLink own x.catchType name).before args s = true) (hcast : (Cond.castable E name).before args s = true) (hcell : H[q]? = some ce) (hv : ce.vm = .none) (hcl : s.vm.findClass E = some ce.cls)
    (kk : W p l e R s m args below meth c H locs cells slots Q (F0 m x.handlerPc ls [.ref q])) : vx_W p l e R s m args below meth c H locs cells slots Q (F0 m pc ls rest) q := by
  intro T hT X
  have hpl : e.platform.magicAccessors = ({} : Platform).magicAccessors := by rw [X.admits.platform]
  obtain ⟨c3, c4, hc3, hc4, hasg⟩ := Cond.castable_spec hcast
  cases Option.some.inj (hc3.symm.trans hcl)
  obtain ⟨c5, hc5, hcl5⟩ := Cond.classLink_spec hown hlink e.platform hpl
  cases Option.some.inj (hc4.symm.trans hc5)
  obtain ⟨vm', X', st⟩ := Stand.thenCaughtThrough X q (g := F0 m pc ls rest) rfl (Steps.refl _) (by rw [hT]; exact hcell) (by rw [hv]; rfl) (by obtain ⟨k9, h9, -⟩ := Vm.findClass_spec hcl; exact ⟨k9, h9⟩) pre x suf hsplit
    (fun z hz => by
      rcases hpass z hz with h | ⟨hz0, nm, hl1, hn1⟩
      · exact Or.inl h
      · obtain ⟨c6, hc6, hcl6⟩ := Cond.classLink_spec hown hl1 e.platform hpl
        obtain ⟨a8, b8, h1, h2, h3⟩ := hn1
        cases Option.some.inj (h1.symm.trans hcl)
        cases Option.some.inj (h2.symm.trans hc6)
        exact Or.inr ⟨hz0, _, hcl6, h3⟩) hx (Or.inr ⟨h0, c4, hcl5, hasg⟩)
  obtain ⟨t, a1, b1⟩ := kk (T.setVm vm') hT X'
  exact ⟨t, st.trans a1, b1⟩
end Rows
section Ends
variable {p : Program} {l : Launch} {e : Env} {R : Room} {s : State} {m : MethodId} {args : Array Value} {below : List Frame} {meth : Method} {c : Code} {H : Heap} {locs : List Loc} {cells slots : Nat} {Q : State → Prop}
variable {mc ms : Nat} {free : Addr → Prop} {A0 A1 : Nat → Prop} {H0 : Heap} {a : Array Value} {ls : Array Slot} {st0 rest : List Value}
variable {Qc : Array Value → State → Outcome → State → Prop} {XC : String → State → State → Prop}
/-- what a body that may throw owes at its end -/
def vx_MQ (below : List Frame) (Qc : Array Value → State → Outcome → State → Prop) (XC : String → State → State → Prop) (a : Array Value) (s : State) (mc ms : Nat) (free : Addr → Prop) : State → Prop := fun t =>
  ∃ o, t.status = .running ∧ Ended t below o ∧ vx_Q Qc XC mc ms free a s o t
theorem vx_ret {g : JFrame} {mc ms : Nat} (k : W p l e R s m args below meth c H locs cells slots (MQ below Qc args s mc ms free) g) : W p l e R s m args below meth c H locs cells slots (vx_MQ below Qc XC args s mc ms free) g := by
  intro T hT X
  obtain ⟨t, a1, o, b1, b2, b3, b4⟩ := k T hT X
  exact ⟨t, a1, o, b1, b2, Or.inl ⟨b3, b4⟩⟩
/-- not caught here: it goes on to the caller -/
theorem vx_widen {g : JFrame} {q : Addr} {k n : Nat} (h1 : cells ≤ k) (h2 : slots ≤ n) (kk : vx_W p l e R s m args below meth c H locs k n Q g q) : vx_W p l e R s m args below meth c H locs cells slots Q g q := fun T hT X => kk T hT (stand_widen X h1 h2)
theorem vx_out {pc : Nat} {E : String} {ce : Cell} {q : Addr} {mc ms : Nat} (hout : ∀ x ∈ c.exceptionTable.toList, covers x pc = false) (hlocks : meth.locks = false) (hcell : H[q]? = some ce) (hv : ce.vm = .none) (hcl : s.vm.findClass E = some ce.cls)
    (hx : ∀ t : State, t.heap = H → s.vm.Alike t.vm → XC E s t) (hf : ∀ z ∈ locs, free z.base) (hc : cells ≤ mc) (hs : slots ≤ ms) :
    vx_W p l e R s m args below meth c H locs cells slots (vx_MQ below Qc XC args s mc ms free) (F0 m pc ls rest) q := by
  intro T hT X
  obtain ⟨st1, hrun, hend, hW, hsm⟩ := X.leaveThrown q (g := F0 m pc ls rest) rfl rfl rfl hout hlocks
  have hcell9 : (T.setFrames (.throwing q :: below)).heap[q]? = some ce := by
    show T.heap[q]? = some ce
    rw [hT]; exact hcell
  exact ⟨_, st1, .threw q, hrun, hend, Or.inr ⟨q, rfl, E, ce, locs, hx _ hT hW.alike, hcell9, hv, hcl, hW, hsm.mono hc hs, hf⟩⟩
theorem vx_frame {U : State} {k n : Nat} (h : s.sameButNew ({ U with vm := s.vm } : State) locs k n) : s.heap.size ≤ U.heap.size ∧ ∀ q : Nat, q < s.heap.size → (∀ z ∈ locs, z.base ≠ q) → U.heap[q]? = s.heap[q]? := by
  obtain ⟨-, h2, -, -, -, h6⟩ := h
  refine ⟨h2, fun q hq hz => ?_⟩
  obtain ⟨c9, e1, e2, e3, e4⟩ := h6 q _ (Array.getElem?_eq_getElem hq)
  have hs : c9.slots = (s.heap[q]).slots := Array.ext_getElem? fun i => e4 i fun hm => hz _ hm rfl
  have h9 : c9 = s.heap[q] := by
    rw [hs] at e2
    exact e2
  have e5 : U.heap[q]? = some c9 := e1
  rw [e5, h9, Array.getElem?_eq_getElem hq]
/-- the words of a throw but the four that speak of the heap -/
def vx_at0 (own : String) (ic : Nat) (X : String) (names : List String) : List Cond := (Bundle.ownAtoms0 own ic X names).filter vx_no
def vx_atS (own : String) (ic : Nat) (X : String) (names : List String) : List Cond := (Bundle.ownAtoms own ic X names).filter vx_no
/-- a word that the tables alone decide, or a good one -/
def vx_ot (w : Cond) : Bool := w.onTables || goodWord w
theorem vx_ot_at {args a' : Array Value} {s U : State} {w : Cond} (hW : s.WarmedH U.vm) (hvm : s.vm = U.vm) (hg : vx_ot w = true) (h : w.before args s = true) : w.before a' U = true := by
  simp only [vx_ot, Bool.or_eq_true] at hg
  rcases hg with hg | hg
  · exact va_tabs hg hvm h
  · exact word_at hW (good_of_word hg) h
/-- a list's words: the good ones out of the method's own list, the others by premises of their own -/
theorem vx_hat {args : Array Value} {s : State} {L B : List Cond} (h1 : ∀ w ∈ L.filter goodWord, w.before args s = true) (h2 : ∀ w ∈ L.filter (fun w => !goodWord w), w ∈ B) (h3 : ∀ w ∈ B, w.before args s = true) : ∀ w ∈ L, w.before args s = true := by
  intro w hw
  by_cases g : goodWord w = true
  · exact h1 w (List.mem_filter.mpr ⟨hw, g⟩)
  · refine h3 w (h2 w (List.mem_filter.mpr ⟨hw, ?_⟩))
    show (!goodWord w) = true
    cases hgw : goodWord w
    · rfl
    · exact absurd hgw g
theorem vx_c {args : Array Value} {s : State} {w : Cond} {B : List Cond} (h : w.before args s = true) (t : ∀ w ∈ B, w.before args s = true) : ∀ w' ∈ w :: B, w'.before args s = true := fun w' h' => (List.mem_cons.mp h').elim (fun e => by rw [e]; exact h) (t w')
theorem vx_n {args : Array Value} {s : State} : ∀ w ∈ ([] : List Cond), w.before args s = true := fun _ h => nomatch h
theorem vx_own {args : Array Value} {s : State} {L : List Cond} (h1 : ∀ w ∈ L.filter vx_no, w.before args s = true)
    (hU : (Cond.isRef (.static Bundle.tN "UNASSIGNED_STACK" Bundle.steD)).before args s = true) (hN : (Cond.isRef (.static Bundle.tN "SUPPRESSED_SENTINEL" Bundle.listD)).before args s = true)
    (lU : (Cond.laysStatic Bundle.tN "UNASSIGNED_STACK" Bundle.steD).before args s = true) (lN : (Cond.laysStatic Bundle.tN "SUPPRESSED_SENTINEL" Bundle.listD).before args s = true) : ∀ w ∈ L, w.before args s = true := by
  intro w hw
  by_cases e1 : w = .isRef (.static Bundle.tN "UNASSIGNED_STACK" Bundle.steD)
  · rw [e1]; exact hU
  · by_cases e2 : w = .isRef (.static Bundle.tN "SUPPRESSED_SENTINEL" Bundle.listD)
    · rw [e2]; exact hN
    · by_cases e3 : w = .laysStatic Bundle.tN "UNASSIGNED_STACK" Bundle.steD
      · rw [e3]; exact lU
      · by_cases e4 : w = .laysStatic Bundle.tN "SUPPRESSED_SENTINEL" Bundle.listD
        · rw [e4]; exact lN
        · exact h1 w (List.mem_filter.mpr ⟨hw, by unfold vx_no; rw [decide_eq_true e1, decide_eq_true e2, decide_eq_true e3, decide_eq_true e4]; rfl⟩)
/-- where a static field lies, its class's statics cell in H -/
def vx_L (C n d : String) (A : Nat → Prop) (U : State) (H : Heap) : Prop := ∃ (c : ClassId) (k : Class) (i : Nat) (f : Field) (a : Nat) (cell : Cell), U.vm.findClass C = some c ∧ U.fieldFound? C n d = some (c, k, i, f) ∧ f.isStatic = true ∧ k.statics = some a ∧ H[a]? = some cell ∧ cell.vm.isStatics = true ∧ cell.cls = c ∧ f.slot < cell.slots.size ∧ k.staticTypes[f.slot]? = some f.type ∧ ¬ A a
theorem vx_L.moved {C n d : String} {A : Nat → Prop} {u U : State} {H : Heap} (hvm : u.vm.Alike U.vm) (h : vx_L C n d A u H) : vx_L C n d A U H := by
  obtain ⟨c, k, i, f, a, cell, h1, h2, h3, h4, h5, h6, h7, h8, h9, h10⟩ := h
  obtain ⟨k', hi', he⟩ := State.fieldFound?_setVm hvm h2
  exact ⟨c, k', i, f, a, cell, by rw [hvm.findClass]; exact h1, hi', h3, by rw [he]; exact h4, h5, h6, h7, h8, by rw [he]; exact h9, h10⟩
theorem vx_L.kept {C n d : String} {A : Nat → Prop} {U : State} {H H1 : Heap} (h : vx_L C n d A U H) (hq : ∀ a : Nat, a < H.size → ¬ A a → H1[a]? = H[a]?) : vx_L C n d A U H1 := by
  obtain ⟨c, k, i, f, a, cell, h1, h2, h3, h4, h5, h6, h7, h8, h9, h10⟩ := h
  exact ⟨c, k, i, f, a, cell, h1, h2, h3, h4, by rw [hq a (Array.getElem?_eq_some_iff.mp h5).1 h10]; exact h5, h6, h7, h8, h9, h10⟩
theorem vx_L.narrow {C n d : String} {A B : Nat → Prop} {U : State} {H : Heap} (h : vx_L C n d A U H) (hAB : ∀ q, B q → A q) : vx_L C n d B U H := by
  obtain ⟨c, k, i, f, a, cell, h1, h2, h3, h4, h5, h6, h7, h8, h9, h10⟩ := h
  exact ⟨c, k, i, f, a, cell, h1, h2, h3, h4, h5, h6, h7, h8, h9, fun z => h10 (hAB _ z)⟩
theorem vx_L.word {C n d : String} {A : Nat → Prop} {s : State} {args : Array Value} (h : vx_L C n d A s s.heap) : (Cond.laysStatic C n d).before args s = true := by
  obtain ⟨c, k, i, f, a, cell, h1, h2, h3, h4, h5, h6, h7, h8, h9, -⟩ := h
  show (Cond.laysStatic C n d).holds args s none s [] = true
  exact Cond.laysStatic_of h1 h2 h3 h4 h5 h6 h7 h8 h9
/-- .. and what it holds: null or some reference -/
def vx_Zq (C n d : String) (A : Nat → Prop) (U : State) (H : Heap) : Prop := va_Zq C n d A U H ∧ vx_L C n d A U H
theorem vx_Zq.moved {C n d : String} {A : Nat → Prop} {u U : State} {H : Heap} (hvm : u.vm.Alike U.vm) (h : vx_Zq C n d A u H) : vx_Zq C n d A U H := ⟨va_Zq.moved hvm h.1, vx_L.moved hvm h.2⟩
theorem vx_Zq.kept {C n d : String} {A : Nat → Prop} {U : State} {H H1 : Heap} (h : vx_Zq C n d A U H) (hq : ∀ a : Nat, a < H.size → ¬ A a → H1[a]? = H[a]?) : vx_Zq C n d A U H1 := ⟨va_Zq.kept h.1 hq, vx_L.kept h.2 hq⟩
theorem vx_Zq.narrow {C n d : String} {A B : Nat → Prop} {U : State} {H : Heap} (h : vx_Zq C n d A U H) (hAB : ∀ q, B q → A q) : vx_Zq C n d B U H := ⟨va_Zq.narrow h.1 hAB, vx_L.narrow h.2 hAB⟩
theorem vx_Zqof {args : Array Value} {s : State} {C n d : String} {A : Nat → Prop} (hl : (Cond.laysStatic C n d).before args s = true) (hini : (Cond.initialized C).before args s = true) (h : (Cond.isRef (.static C n d)).before args s = true) (hA : ∀ a : Nat, a < s.heap.size → ¬ A a) : vx_Zq C n d A s s.heap := by
  refine ⟨va_Zqof hl hini h hA, ?_⟩
  obtain ⟨c, k, i, f, a, cell, h1, h2, h3, h4, h5, h6, h7, h8, h9⟩ := Cond.laysStatic_spec hl
  exact ⟨c, k, i, f, a, cell, h1, h2, h3, h4, h5, h6, h7, h8, h9, hA a (Array.getElem?_eq_some_iff.mp h5).1⟩
theorem vx_isRef {C n d : String} {v : Value} {A : Nat → Prop} {s : State} {args : Array Value} (h : va_Z C n d v A s s.heap) (hv : v.isRef = true) : (Cond.isRef (.static C n d)).before args s = true := by
  obtain ⟨cf, kf, fi, f, a, cell, h1, h2, h3, h4, h5, h6, h7, -⟩ := h
  have he : (Term.static C n d).eval args s none [] s = some v := by
    simp [Term.eval, State.fieldNamed?, h1, h2, h4, h5, h6, h7]
  simp only [Cond.before, Cond.holds, Cond.value, he]
  cases v <;> simp_all [Value.isRef]
theorem vx_isRefq {C n d : String} {A : Nat → Prop} {s : State} {args : Array Value} (h : va_Zq C n d A s s.heap) : (Cond.isRef (.static C n d)).before args s = true := by
  rcases h with h | ⟨t, h⟩
  · exact vx_isRef h rfl
  · exact vx_isRef h rfl
/-- the same frame, seen from here: as if the method were called anew in this heap -/
theorem vx_rebase {T : State} (X : Stand p l e R s m args below meth c T locs cells slots) {R' : Room} (hf : R'.frames ≤ R.frames) (hl : R'.locals ≤ R.locals) (hc : cells + R'.cells ≤ R.cells) (hs : slots + R'.slots ≤ R.slots) :
    Stand p l e R' ((T.setVm s.vm).setFrames (.invoking m args :: below)) m args below meth c T [] 0 0 := by
  have htop : (T.setVm s.vm).topJava?.isSome := X.here.top
  have hF : ((T.setVm s.vm).setFrames (.invoking m args :: below)).frames = .invoking m args :: below := State.frames_setFrames _ (State.cur_lt_of_top htop)
  obtain ⟨g₀, hg0⟩ := Option.isSome_iff_exists.mp htop
  obtain ⟨r, hr⟩ := State.topJava?_eq_some.mp hg0
  have hl9 : e.platform.stackLimits (T.setVm s.vm).me = e.platform.stackLimits s.me := X.limits
  have hb9 : (T.setVm s.vm).me.stackBytes = s.me.stackBytes := X.bytes
  refine ⟨X.admits, X.cas, X.clock, hF, ?_, X.hears, X.method, X.code, X.here, X.tail, X.warmed, ?_, ?_, ?_⟩
  · have h := X.room
    have hU : ((T.setVm s.vm).setFrames (.invoking m args :: below)).localsInUse = s.localsInUse := by
      rw [State.localsInUse_invoking hF (meth := meth) (c := c) X.method X.code, State.localsInUse_invoking X.frames X.method X.code]
    simp only [State.hasRoom, Bool.and_eq_true, decide_eq_true_eq] at h ⊢
    obtain ⟨⟨⟨⟨h1, h2, h3, h4, h5, h6⟩, h7⟩, h8⟩, h9⟩ := h
    rw [X.frames, List.length_cons] at h2 h3
    have q1 := X.heapSize
    have q2 := X.used
    simp only [hF, hU, List.length_cons, State.stackLimits_setFrames, State.stackBytes_setFrames, hl9, hb9]
    refine ⟨⟨⟨⟨by omega, by omega, by omega, by omega, by omega, h6⟩, ?_⟩, ?_⟩, X.book⟩
    · show T.heap.size + R'.cells ≤ e.platform.maxCells
      omega
    · show T.slotsUsed + R'.slots ≤ e.platform.maxSlots
      omega
  · rw [State.stackLimits_setFrames]; rfl
  · rw [State.stackBytes_setFrames]; rfl
  · refine ⟨?_, Nat.le_refl _, Nat.le_refl _, ?_, ?_, fun a c9 h9 => ⟨c9, h9, rfl, rfl, fun _ _ => rfl⟩⟩
    · obtain ⟨t, ht, -⟩ := State.frames_cons hr
      show T.setVm s.vm = { ((T.setVm s.vm).setFrames (.invoking m args :: below)).setFrames (T.setVm s.vm).frames with heap := T.heap, slotsUsed := T.slotsUsed }
      rw [State.setFrames_setFrames, State.setFrames_self ht]
      rfl
    · show T.slotsUsed = T.slotsUsed + ((T.heap.toList.drop T.heap.size).map (·.slots.size)).sum
      rw [List.drop_eq_nil_of_le (Nat.le_of_eq Array.length_toList)]
      rfl
    · show ((T.heap.toList.drop T.heap.size).map (·.slots.size)).sum ≤ 0
      rw [List.drop_eq_nil_of_le (Nat.le_of_eq Array.length_toList)]
      exact Nat.le_refl _
/-- 'throw new E()': new; dup; invokespecial; athrow -/
theorem vx_throw0 {cc : ByteArray} {pc : Nat} (hexec : p.tables.exec = Jvm.exec) (hb : c.code = cc) (hl : l.stackTraces = false) {own cls : String} {names : List String} {ik ic mc ms : Nat} {A : Nat → Prop}
    (hown : s.vm.findClass own = some m.cls) (hcls : Bundle.fit cls = true) (hnames : ∀ n ∈ names, Bundle.fit n = true)
    (hk : (Cond.classLink own ik cls).before args s = true) (hini : (Cond.initialized cls).before args s = true) (hat : ∀ w ∈ vx_at0 own ic cls names, w.before args s = true)
    (hgood : ∀ w ∈ Cond.classLink own ik cls :: Cond.initialized cls :: vx_at0 own ic cls names, vx_ot w = true)
    (hU : vx_Zq Bundle.tN "UNASSIGNED_STACK" Bundle.steD A s s.heap) (hN : vx_Zq Bundle.tN "SUPPRESSED_SENTINEL" Bundle.listD A s s.heap) (hS : va_S A s.heap H locs) (hsize : ls.size = c.maxLocals)
    (d0 : decode cc pc = .ok (.new ik, 3)) (d3 : decode cc (pc + 3) = .ok (.dup, 1)) (d4 : decode cc (pc + 4) = .ok (.invokespecial ic, 3)) (d7 : decode cc (pc + 7) = .ok (.athrow, 1))
    (hout : ∀ x ∈ c.exceptionTable.toList, covers x (pc + 7) = false)
    (hRframes : names.length + 3 < R.frames) (hRlocals : (rest.map fun v => v.category).sum + (13 * (names.length + 1) + 42) ≤ R.locals) (hRcells : cells + 1 ≤ R.cells) (hRslots : slots + 6 ≤ R.slots) (hlocks : meth.locks = false)
    (hx : ∀ t : State, s.vm.Alike t.vm → H.size ≤ t.heap.size → (∀ q : Nat, q < H.size → t.heap[q]? = H[q]?) → XC cls s t)
    (hf : ∀ z ∈ locs, free z.base) (hc : cells + 1 ≤ mc) (hs : slots + 6 ≤ ms) :
    W p l e R s m args below meth c H locs cells slots (vx_MQ below Qc XC args s mc ms free) (F0 m pc ls rest) := by
  intro T hT X
  have htr : e.platform.stackTraces = false := (show e.platform.stackTraces = l.stackTraces by rw [X.admits.platform]).trans hl
  have Y := vx_rebase X (R' := { frames := R.frames, locals := R.locals, cells := 1, slots := 6 }) (Nat.le_refl _) (Nat.le_refl _) hRcells hRslots
  obtain ⟨s', hA⟩ : ∃ z, z = (T.setVm s.vm).setFrames (.invoking m args :: below) := ⟨_, rfl⟩
  rw [← hA] at Y
  have hvm : s'.vm = s.vm := by rw [hA]; rfl
  have hhp : s'.heap = H := by rw [hA]; exact hT
  have hW0 : s.WarmedH s'.vm := by rw [hvm]; exact State.WarmedH.refl s
  have hat' : ∀ w ∈ vx_at0 own ic cls names, w.before args s' = true := fun w hw => vx_ot_at hW0 hvm.symm (hgood w (List.mem_cons_of_mem _ (List.mem_cons_of_mem _ hw))) (hat w hw)
  have hk' : (Cond.classLink own ik cls).before args s' = true := vx_ot_at hW0 hvm.symm (hgood _ List.mem_cons_self) hk
  have hini' : (Cond.initialized cls).before args s' = true := vx_ot_at hW0 hvm.symm (hgood _ (List.mem_cons_of_mem _ List.mem_cons_self)) hini
  have hU' : vx_Zq Bundle.tN "UNASSIGNED_STACK" Bundle.steD A s' s'.heap := by rw [hhp]; exact vx_Zq.moved hW0.alike (hU.kept hS.2.1)
  have hN' : vx_Zq Bundle.tN "SUPPRESSED_SENTINEL" Bundle.listD A s' s'.heap := by rw [hhp]; exact vx_Zq.moved hW0.alike (hN.kept hS.2.1)
  have h : ∀ w ∈ Bundle.ownAtoms0 own ic cls names, w.before args s' = true := vx_own hat' (vx_isRefq hU'.1) (vx_isRefq hN'.1) hU'.2.word hN'.2.word
  have hown' : s'.vm.findClass own = some m.cls := by rw [hvm]; exact hown
  have hins : (Cond.instantiable cls 6).before args s' = true := h _ (by simp [Bundle.ownAtoms0])
  obtain ⟨vm₁, cX, kX, hfX, hkX, -, -, X₁, st1⟩ := Y.newCold hexec (own := own) (C := cls) (index := ik) (n := 6) hown' hk' hins hini'
    (g := F0 m pc ls rest) rfl (by rw [hb]; exact d0) (Nat.le_refl _) (Nat.le_refl _)
  generalize hT1 : (T.setVm vm₁).pushCell { cls := cX, slots := kX.instanceTypes.map defaultValue, vm := .none } = T1 at X₁ st1
  have hcat : (Value.ref T.heap.size).category = 1 := rfl
  have hcellA : T1.heap[T.heap.size]? = some (freshCell cX kX) := by rw [← hT1]; exact State.heap_pushCell_size _ _
  have d3' : decode c.code (pc + 3) = .ok (.dup, 1) := by rw [hb]; exact d3
  obtain ⟨U, hsteps, hrun, hend, hW, hsame, ce, hce, hO⟩ := X₁.ctorThrow0 hexec htr (own := own) (cls := cls) (names := names) (ic := ic) hown' hcls hnames h (fun x hx => nomatch hx) hfX hkX hcellA (by rw [hhp, hT]; exact Nat.le_refl _)
    (g := { method := m, pc := pc + 4, locals := ls, stack := .ref T.heap.size :: .ref T.heap.size :: rest, locked := none }) rfl hsize rfl rfl (rest := rest) rfl
    (by rw [hb]; exact d4) (by rw [hb]; exact d7) hout hRframes (by simp only [List.map_cons, List.sum_cons, hcat]; omega) hlocks
  obtain ⟨f1, f2⟩ := vx_frame hsame
  rw [hhp] at f1 f2
  have hWs : s.WarmedH U.vm := State.WarmedH.trans hW0 hW
  have hcl : s.vm.findClass cls = some ce.cls := by
    have h9 := hO.cls
    rw [hvm] at h9
    exact h9
  have hall : s.sameButNew ({ U with vm := s.vm } : State) locs mc ms := by
    subst hA
    obtain ⟨e1, e2⟩ := hsame
    rw [State.setFrames_setFrames] at e1
    have h2 : (T.setVm s.vm).sameButNew ({ U with vm := s.vm } : State) [] (0 + 1) (0 + 6) := ⟨e1, e2⟩
    have h3 := X.same.trans h2
    rw [List.append_nil] at h3
    exact h3.mono hc hs
  refine ⟨U, ?_, .threw T.heap.size, hrun, hend, Or.inr ⟨T.heap.size, rfl, cls, ce, locs, hx U hWs.alike f1 (fun q hq => f2 q hq (fun z hz => nomatch hz)), hce, hO.vm, hcl, hWs, hall, hf⟩⟩
  refine st1 _ ?_
  show Steps p.tables e below (T1.setTop { method := m, pc := pc + 3, locals := ls, stack := .ref T.heap.size :: rest, locked := none }) _
  jvm_step X₁.here [X₁.here.top, hexec, d3', Value.category]
  exact hsteps
/-- 'throw new E("text")': new; dup; ldc; invokespecial; athrow -/
theorem vx_throwS {cc : ByteArray} {pc : Nat} (hexec : p.tables.exec = Jvm.exec) (hb : c.code = cc) (hl : l.stackTraces = false) {own cls text : String} {names : List String} {ik is ic mc ms sa : Nat} {A : Nat → Prop}
    (hown : s.vm.findClass own = some m.cls) (hcls : Bundle.fit cls = true) (hnames : ∀ n ∈ names, Bundle.fit n = true)
    (hk : (Cond.classLink own ik cls).before args s = true) (hini : (Cond.initialized cls).before args s = true) (hstr : vk_R own is text sa s) (hat : ∀ w ∈ vx_atS own ic cls names, w.before args s = true)
    (hgood : ∀ w ∈ Cond.classLink own ik cls :: Cond.initialized cls :: vx_atS own ic cls names, vx_ot w = true)
    (hU : vx_Zq Bundle.tN "UNASSIGNED_STACK" Bundle.steD A s s.heap) (hN : vx_Zq Bundle.tN "SUPPRESSED_SENTINEL" Bundle.listD A s s.heap) (hS : va_S A s.heap H locs) (hsize : ls.size = c.maxLocals)
    (d0 : decode cc pc = .ok (.new ik, 3)) (d3 : decode cc (pc + 3) = .ok (.dup, 1)) (d4 : decode cc (pc + 4) = .ok (.ldc is, 2)) (d6 : decode cc (pc + 6) = .ok (.invokespecial ic, 3)) (d9 : decode cc (pc + 9) = .ok (.athrow, 1))
    (hout : ∀ x ∈ c.exceptionTable.toList, covers x (pc + 9) = false)
    (hRframes : names.length + 3 < R.frames) (hRlocals : (rest.map fun v => v.category).sum + (13 * (names.length + 1) + 43) ≤ R.locals) (hRcells : cells + 1 ≤ R.cells) (hRslots : slots + 6 ≤ R.slots) (hlocks : meth.locks = false)
    (hx : ∀ t : State, s.vm.Alike t.vm → H.size ≤ t.heap.size → (∀ q : Nat, q < H.size → t.heap[q]? = H[q]?) → XC cls s t)
    (hf : ∀ z ∈ locs, free z.base) (hc : cells + 1 ≤ mc) (hs : slots + 6 ≤ ms) :
    W p l e R s m args below meth c H locs cells slots (vx_MQ below Qc XC args s mc ms free) (F0 m pc ls rest) := by
  intro T hT X
  have htr : e.platform.stackTraces = false := (show e.platform.stackTraces = l.stackTraces by rw [X.admits.platform]).trans hl
  have Y := vx_rebase X (R' := { frames := R.frames, locals := R.locals, cells := 1, slots := 6 }) (Nat.le_refl _) (Nat.le_refl _) hRcells hRslots
  obtain ⟨s', hA⟩ : ∃ z, z = (T.setVm s.vm).setFrames (.invoking m args :: below) := ⟨_, rfl⟩
  rw [← hA] at Y
  have hvm : s'.vm = s.vm := by rw [hA]; rfl
  have hhp : s'.heap = H := by rw [hA]; exact hT
  have hW0 : s.WarmedH s'.vm := by rw [hvm]; exact State.WarmedH.refl s
  have hat' : ∀ w ∈ vx_atS own ic cls names, w.before args s' = true := fun w hw => vx_ot_at hW0 hvm.symm (hgood w (List.mem_cons_of_mem _ (List.mem_cons_of_mem _ hw))) (hat w hw)
  have hk' : (Cond.classLink own ik cls).before args s' = true := vx_ot_at hW0 hvm.symm (hgood _ List.mem_cons_self) hk
  have hini' : (Cond.initialized cls).before args s' = true := vx_ot_at hW0 hvm.symm (hgood _ (List.mem_cons_of_mem _ List.mem_cons_self)) hini
  have hU' : vx_Zq Bundle.tN "UNASSIGNED_STACK" Bundle.steD A s' s'.heap := by rw [hhp]; exact vx_Zq.moved hW0.alike (hU.kept hS.2.1)
  have hN' : vx_Zq Bundle.tN "SUPPRESSED_SENTINEL" Bundle.listD A s' s'.heap := by rw [hhp]; exact vx_Zq.moved hW0.alike (hN.kept hS.2.1)
  have h : ∀ w ∈ Bundle.ownAtoms own ic cls names, w.before args s' = true := vx_own hat' (vx_isRefq hU'.1) (vx_isRefq hN'.1) hU'.2.word hN'.2.word
  have hown' : s'.vm.findClass own = some m.cls := by rw [hvm]; exact hown
  have hins : (Cond.instantiable cls 6).before args s' = true := h _ (by simp [Bundle.ownAtoms])
  obtain ⟨vm₁, cX, kX, hfX, hkX, -, -, X₁, st1⟩ := Y.newCold hexec (own := own) (C := cls) (index := ik) (n := 6) hown' hk' hins hini'
    (g := F0 m pc ls rest) rfl (by rw [hb]; exact d0) (Nat.le_refl _) (Nat.le_refl _)
  generalize hT1 : (T.setVm vm₁).pushCell { cls := cX, slots := kX.instanceTypes.map defaultValue, vm := .none } = T1 at X₁ st1
  have hcat : (Value.ref T.heap.size).category = 1 := rfl
  have hcellA : T1.heap[T.heap.size]? = some (freshCell cX kX) := by rw [← hT1]; exact State.heap_pushCell_size _ _
  have d3' : decode c.code (pc + 3) = .ok (.dup, 1) := by rw [hb]; exact d3
  have d4' : decode c.code (pc + 4) = .ok (.ldc is, 2) := by rw [hb]; exact d4
  have hstr' : vk_R own is text sa s' := vk_R.warm hW0 hstr
  obtain ⟨U, hsteps, hrun, hend, hW, hsame, ce, hce, hO⟩ := X₁.ctorThrowS hexec htr (own := own) (cls := cls) (names := names) (ic := ic) hown' hcls hnames h (fun x hx => nomatch hx) hfX hkX hcellA (by rw [hhp, hT]; exact Nat.le_refl _) (msg := .ref sa) rfl
    (g := { method := m, pc := pc + 6, locals := ls, stack := .ref sa :: .ref T.heap.size :: .ref T.heap.size :: rest, locked := none }) rfl hsize rfl rfl (rest := rest) rfl
    (by rw [hb]; exact d6) (by rw [hb]; exact d9) hout hRframes (by simp only [List.map_cons, List.sum_cons, hcat]; omega) hlocks
  obtain ⟨f1, f2⟩ := vx_frame hsame
  rw [hhp] at f1 f2
  have hWs : s.WarmedH U.vm := State.WarmedH.trans hW0 hW
  have hcl : s.vm.findClass cls = some ce.cls := by
    have h9 := hO.cls
    rw [hvm] at h9
    exact h9
  have hall : s.sameButNew ({ U with vm := s.vm } : State) locs mc ms := by
    subst hA
    obtain ⟨e1, e2⟩ := hsame
    rw [State.setFrames_setFrames] at e1
    have h2 : (T.setVm s.vm).sameButNew ({ U with vm := s.vm } : State) [] (0 + 1) (0 + 6) := ⟨e1, e2⟩
    have h3 := X.same.trans h2
    rw [List.append_nil] at h3
    exact h3.mono hc hs
  refine ⟨U, ?_, .threw T.heap.size, hrun, hend, Or.inr ⟨T.heap.size, rfl, cls, ce, locs, hx U hWs.alike f1 (fun q hq => f2 q hq (fun z hz => nomatch hz)), hce, hO.vm, hcl, hWs, hall, hf⟩⟩
  refine st1 _ ?_
  show Steps p.tables e below (T1.setTop { method := m, pc := pc + 3, locals := ls, stack := .ref T.heap.size :: rest, locked := none }) _
  jvm_step X₁.here [X₁.here.top, hexec, d3', Value.category]
  exact X₁.ldcString hexec (own := own) (text := text) (index := is) (a := sa) hown' hstr'.1 hstr'.2
    (g := { method := m, pc := pc + 4, locals := ls, stack := .ref T.heap.size :: .ref T.heap.size :: rest, locked := none }) rfl d4' _ hsteps
/-- 'throw new E("text")', the text by a wide index -/
theorem vx_throwSW {cc : ByteArray} {pc : Nat} (hexec : p.tables.exec = Jvm.exec) (hb : c.code = cc) (hl : l.stackTraces = false) {own cls text : String} {names : List String} {ik is ic mc ms sa : Nat} {A : Nat → Prop}
    (hown : s.vm.findClass own = some m.cls) (hcls : Bundle.fit cls = true) (hnames : ∀ n ∈ names, Bundle.fit n = true)
    (hk : (Cond.classLink own ik cls).before args s = true) (hini : (Cond.initialized cls).before args s = true) (hstr : vk_R own is text sa s) (hat : ∀ w ∈ vx_atS own ic cls names, w.before args s = true)
    (hgood : ∀ w ∈ Cond.classLink own ik cls :: Cond.initialized cls :: vx_atS own ic cls names, vx_ot w = true)
    (hU : vx_Zq Bundle.tN "UNASSIGNED_STACK" Bundle.steD A s s.heap) (hN : vx_Zq Bundle.tN "SUPPRESSED_SENTINEL" Bundle.listD A s s.heap) (hS : va_S A s.heap H locs) (hsize : ls.size = c.maxLocals)
    (d0 : decode cc pc = .ok (.new ik, 3)) (d3 : decode cc (pc + 3) = .ok (.dup, 1)) (d4 : decode cc (pc + 4) = .ok (.ldc_w is, 3)) (d7 : decode cc (pc + 7) = .ok (.invokespecial ic, 3)) (d10 : decode cc (pc + 10) = .ok (.athrow, 1))
    (hout : ∀ x ∈ c.exceptionTable.toList, covers x (pc + 10) = false)
    (hRframes : names.length + 3 < R.frames) (hRlocals : (rest.map fun v => v.category).sum + (13 * (names.length + 1) + 43) ≤ R.locals) (hRcells : cells + 1 ≤ R.cells) (hRslots : slots + 6 ≤ R.slots) (hlocks : meth.locks = false)
    (hx : ∀ t : State, s.vm.Alike t.vm → H.size ≤ t.heap.size → (∀ q : Nat, q < H.size → t.heap[q]? = H[q]?) → XC cls s t)
    (hf : ∀ z ∈ locs, free z.base) (hc : cells + 1 ≤ mc) (hs : slots + 6 ≤ ms) :
    W p l e R s m args below meth c H locs cells slots (vx_MQ below Qc XC args s mc ms free) (F0 m pc ls rest) := by
  intro T hT X
  have htr : e.platform.stackTraces = false := (show e.platform.stackTraces = l.stackTraces by rw [X.admits.platform]).trans hl
  have Y := vx_rebase X (R' := { frames := R.frames, locals := R.locals, cells := 1, slots := 6 }) (Nat.le_refl _) (Nat.le_refl _) hRcells hRslots
  obtain ⟨s', hA⟩ : ∃ z, z = (T.setVm s.vm).setFrames (.invoking m args :: below) := ⟨_, rfl⟩
  rw [← hA] at Y
  have hvm : s'.vm = s.vm := by rw [hA]; rfl
  have hhp : s'.heap = H := by rw [hA]; exact hT
  have hW0 : s.WarmedH s'.vm := by rw [hvm]; exact State.WarmedH.refl s
  have hat' : ∀ w ∈ vx_atS own ic cls names, w.before args s' = true := fun w hw => vx_ot_at hW0 hvm.symm (hgood w (List.mem_cons_of_mem _ (List.mem_cons_of_mem _ hw))) (hat w hw)
  have hk' : (Cond.classLink own ik cls).before args s' = true := vx_ot_at hW0 hvm.symm (hgood _ List.mem_cons_self) hk
  have hini' : (Cond.initialized cls).before args s' = true := vx_ot_at hW0 hvm.symm (hgood _ (List.mem_cons_of_mem _ List.mem_cons_self)) hini
  have hU' : vx_Zq Bundle.tN "UNASSIGNED_STACK" Bundle.steD A s' s'.heap := by rw [hhp]; exact vx_Zq.moved hW0.alike (hU.kept hS.2.1)
  have hN' : vx_Zq Bundle.tN "SUPPRESSED_SENTINEL" Bundle.listD A s' s'.heap := by rw [hhp]; exact vx_Zq.moved hW0.alike (hN.kept hS.2.1)
  have h : ∀ w ∈ Bundle.ownAtoms own ic cls names, w.before args s' = true := vx_own hat' (vx_isRefq hU'.1) (vx_isRefq hN'.1) hU'.2.word hN'.2.word
  have hown' : s'.vm.findClass own = some m.cls := by rw [hvm]; exact hown
  have hins : (Cond.instantiable cls 6).before args s' = true := h _ (by simp [Bundle.ownAtoms])
  obtain ⟨vm₁, cX, kX, hfX, hkX, -, -, X₁, st1⟩ := Y.newCold hexec (own := own) (C := cls) (index := ik) (n := 6) hown' hk' hins hini'
    (g := F0 m pc ls rest) rfl (by rw [hb]; exact d0) (Nat.le_refl _) (Nat.le_refl _)
  generalize hT1 : (T.setVm vm₁).pushCell { cls := cX, slots := kX.instanceTypes.map defaultValue, vm := .none } = T1 at X₁ st1
  have hcat : (Value.ref T.heap.size).category = 1 := rfl
  have hcellA : T1.heap[T.heap.size]? = some (freshCell cX kX) := by rw [← hT1]; exact State.heap_pushCell_size _ _
  have d3' : decode c.code (pc + 3) = .ok (.dup, 1) := by rw [hb]; exact d3
  have d4' : decode c.code (pc + 4) = .ok (.ldc_w is, 3) := by rw [hb]; exact d4
  have hstr' : vk_R own is text sa s' := vk_R.warm hW0 hstr
  obtain ⟨U, hsteps, hrun, hend, hW, hsame, ce, hce, hO⟩ := X₁.ctorThrowS hexec htr (own := own) (cls := cls) (names := names) (ic := ic) hown' hcls hnames h (fun x hx => nomatch hx) hfX hkX hcellA (by rw [hhp, hT]; exact Nat.le_refl _) (msg := .ref sa) rfl
    (g := { method := m, pc := pc + 7, locals := ls, stack := .ref sa :: .ref T.heap.size :: .ref T.heap.size :: rest, locked := none }) rfl hsize rfl rfl (rest := rest) rfl
    (by rw [hb]; exact d7) (by rw [hb]; exact d10) hout hRframes (by simp only [List.map_cons, List.sum_cons, hcat]; omega) hlocks
  obtain ⟨f1, f2⟩ := vx_frame hsame
  rw [hhp] at f1 f2
  have hWs : s.WarmedH U.vm := State.WarmedH.trans hW0 hW
  have hcl : s.vm.findClass cls = some ce.cls := by
    have h9 := hO.cls
    rw [hvm] at h9
    exact h9
  have hall : s.sameButNew ({ U with vm := s.vm } : State) locs mc ms := by
    subst hA
    obtain ⟨e1, e2⟩ := hsame
    rw [State.setFrames_setFrames] at e1
    have h2 : (T.setVm s.vm).sameButNew ({ U with vm := s.vm } : State) [] (0 + 1) (0 + 6) := ⟨e1, e2⟩
    have h3 := X.same.trans h2
    rw [List.append_nil] at h3
    exact h3.mono hc hs
  refine ⟨U, ?_, .threw T.heap.size, hrun, hend, Or.inr ⟨T.heap.size, rfl, cls, ce, locs, hx U hWs.alike f1 (fun q hq => f2 q hq (fun z hz => nomatch hz)), hce, hO.vm, hcl, hWs, hall, hf⟩⟩
  refine st1 _ ?_
  show Steps p.tables e below (T1.setTop { method := m, pc := pc + 3, locals := ls, stack := .ref T.heap.size :: rest, locked := none }) _
  jvm_step X₁.here [X₁.here.top, hexec, d3', Value.category]
  exact X₁.ldcStringW hexec (own := own) (text := text) (index := is) (a := sa) hown' hstr'.1 hstr'.2
    (g := { method := m, pc := pc + 4, locals := ls, stack := .ref T.heap.size :: .ref T.heap.size :: rest, locked := none }) rfl d4' _ hsteps
end Ends
section Bodies
variable {l : Launch}
theorem vx_ofW {y : MethodName} {ws ws' : List Cond} {rm : Room} {Pc : Array Value → State → Prop} {Qc : Array Value → State → Outcome → State → Prop} {XC : String → State → State → Prop} {mc ms : Nat} {free : Addr → Prop} {cc : ByteArray} {maxL : Nat} {ret : Option FieldType}
    (hy : plainName y.cls = true) (hw : ws = Cond.code y cc maxL ret :: ws')
    (body : ∀ p e s m args below meth c s₁, BodyLoose p l y (headSpec ws rm) cc maxL ret e s m args below meth c s₁ → c.maxLocals = maxL → (∀ x ∈ c.exceptionTable.toList, False) → Pc args s →
      W p l e (headSpec ws rm).room s m args below meth c s.heap [] 0 0 (vx_MQ below Qc XC args s mc ms free) (entryFrame m args maxL)) : vx_Met l y ws rm Pc Qc XC mc ms free := by
  refine MetFree.of_bodyS (code := cc) (maxLocals := maxL) (ret := ret) hy ?_ ?_
  · intro args s m h hn
    obtain ⟨meth, c, h1, h2, h3, h4, h5, h6, -, -⟩ := Cond.code_spec hn (atoms_spec (ws := ws) h _ (by rw [hw]; exact List.mem_cons_self))
    exact ⟨meth, c, h1, h2, h3, h4, h5, h6⟩
  · intro p e s m args below meth c s₁ B hml hP _
    have hh0 : s₁.heap = s.heap := by rw [B.state]; rfl
    have ht : ∀ x ∈ c.exceptionTable.toList, False := by
      obtain ⟨meth9, c9, h1, h2, -, -, -, -, h7, -⟩ := Cond.code_spec B.named (atoms_spec (ws := ws) B.pre _ (by rw [hw]; exact List.mem_cons_self))
      cases Option.some.inj (h1.symm.trans B.method)
      cases Option.some.inj (h2.symm.trans (Stand.of_body B).code)
      intro x hx
      rw [Array.isEmpty_iff.mp h7] at hx
      cases hx
    obtain ⟨t, a1, o, b1, b2, b3⟩ := body p e s m args below meth c s₁ B hml ht hP s₁ hh0 (Stand.of_body B)
    exact ⟨t, o, a1, b1, b2, b3⟩
/-- the table of a body with handlers -/
theorem vx_table {p : Program} {x y : MethodName} {S : Spec} {cc bytes : ByteArray} {maxL maxL' : Nat} {ret ret' : Option FieldType} {e : Env} {s s₁ : State} {m : MethodId} {args : Array Value} {below : List Frame} {meth : Method} {c : Code} {hh : List (Nat × Nat × Nat × Nat)}
    (B : BodyLoose p l y S cc maxL ret e s m args below meth c s₁) (h : (Cond.codeWith y bytes maxL' ret' hh).before args s = true) : c.exceptionTable.toList = tableOf hh := by
  obtain ⟨m9, meth9, c9, hn9, h1, h2, -, -, h6, -⟩ := Cond.codeWith_spec h
  cases Option.some.inj (hn9.symm.trans B.named)
  cases Option.some.inj (h1.symm.trans B.method)
  cases Option.some.inj (h2.symm.trans (Stand.of_body B).code)
  rw [← h6, table_eq]
end Bodies
end VXA
/-! ===== END ===== -/
/-! ===== BEGIN a static call of a method with an exception table ===== -/
section VXS
variable {p : Program} {l : Launch} {e : Env} {R : Room} {s : State} {m : MethodId} {args : Array Value} {below : List Frame} {meth : Method} {c : Code} {T : State} {H : Heap} {locs : List Loc} {cells slots : Nat}
abbrev vx_CSW (R : Room) (s : State) (args : Array Value) (own : String) (index : Nat) (y : MethodName) (bytes : ByteArray) (maxL : Nat) (ret : Option FieldType) (hh : List (Nat × Nat × Nat × Nat)) (ws : List Cond) (rm : Room) (mc ms n : Nat) : Prop :=
  (rm.cells = mc ∧ rm.slots = ms ∧ rm.frames + 1 ≤ R.frames ∧ 8 + (maxL + 11) + rm.locals ≤ R.locals ∧ (∀ w ∈ ws, ∀ (a' : Array Value) (U : State), s.WarmedH U.vm → w.before a' U = true) ∧ Cond.codeWith y bytes maxL ret hh ∈ ws) ∧
  (Cond.codeWith y bytes maxL ret hh).before args s = true ∧ (Cond.initialized y.cls).before args s = true ∧ (y.cls ≠ "java/lang/invoke/MethodHandle" ∧ y.cls ≠ "java/lang/invoke/VarHandle") ∧
  (∀ sig, parseMethodDescriptor y.desc = some sig → n = sig.parameters.length) ∧ (Cond.methodLink own index y).before args s = true ∧ (Cond.static y).before args s = true
theorem vx_cwSW {own : String} {index maxL mc ms : Nat} {y : MethodName} {bytes : ByteArray} {ret : Option FieldType} {hh : List (Nat × Nat × Nat × Nat)} {Ts ws ws' : List Cond} {rm : Room} (n : Nat) (ht : ∀ w ∈ Ts, w.before args s = true) (hT : GoodIn Ts (va_wsS own index y ws)) (hw : ws = Cond.codeWith y bytes maxL ret hh :: ws') (hrc : rm.cells = mc) (hrs : rm.slots = ms)
    (hd : y.cls ≠ "java/lang/invoke/MethodHandle" ∧ y.cls ≠ "java/lang/invoke/VarHandle" ∧ (parseMethodDescriptor y.desc).map (fun d => d.parameters.length) = some n) (hR : rm.frames + 1 ≤ R.frames ∧ 8 + (maxL + 11) + rm.locals ≤ R.locals) :
    vx_CSW R s args own index y bytes maxL ret hh ws rm mc ms n := by
  have ok : ∀ w ∈ va_wsS own index y ws, w.before args s = true := fun w h => ht w (hT w h).1
  have hG : GoodIn Ts ws := fun w h => hT w (by unfold va_wsS; exact List.mem_append_right _ h)
  have hc : Cond.codeWith y bytes maxL ret hh ∈ ws := by rw [hw]; exact List.mem_cons_self
  refine ⟨⟨hrc, hrs, hR.1, hR.2, pay_in ht hG, hc⟩, ht _ (hG _ hc).1, ok _ (by simp [va_wsS]), ⟨hd.1, hd.2.1⟩, fun sig h => ?_, ok _ (by simp [va_wsS]), ok _ (by simp [va_wsS])⟩
  have h2 := hd.2.2
  rw [h] at h2
  exact (Option.some.inj h2).symm
theorem vx_callSW (X : Stand p l e R s m args below meth c T locs cells slots) (hexec : p.tables.exec = Jvm.exec) {own : String} {index : Nat} {y : MethodName} {bytes : ByteArray} {maxL : Nat} {ret : Option FieldType} {hh : List (Nat × Nat × Nat × Nat)}
    (hown : s.vm.findClass own = some m.cls) (hlink : (Cond.methodLink own index y).before args s = true) (hstat : (Cond.static y).before args s = true) (hinit : (Cond.initialized y.cls).before args s = true)
    (hcode : (Cond.codeWith y bytes maxL ret hh).before args s = true) (hy : y.cls ≠ "java/lang/invoke/MethodHandle" ∧ y.cls ≠ "java/lang/invoke/VarHandle")
    {W9 : Nat} {Pre : Pt → Array Value → Prop} {Post : Pt → Array Value → Option Value → Pt → Prop} (hK : Back l R p e below s args y 3 W9 Pre Post)
    {g : JFrame} (hg : g.method = m) (hsize : g.locals.size = c.maxLocals) {argsL rest : List Value} (hlen : ∀ sig, parseMethodDescriptor y.desc = some sig → argsL.length = sig.parameters.length)
    (hstack : g.stack = argsL.reverse ++ rest) (hW : 2 * g.monitorRoom + (rest.map fun v => v.category).sum ≤ W9) (hdg : decode c.code g.pc = .ok (.invokestatic index, 3))
    (hpre : ∀ vm₁, s.WarmedH vm₁ → Pre ⟨T.setVm vm₁, locs, cells, slots⟩ argsL.toArray) :
    ∃ (v : Option Value) (vm₁ : Vm) (B : Pt), s.WarmedH vm₁ ∧ Stand p l e R s m args below meth c B.U B.locs B.cells B.slots ∧ Post ⟨T.setVm vm₁, locs, cells, slots⟩ argsL.toArray v B ∧
      ∀ target, Steps p.tables e below (B.U.setTop { g with pc := g.pc + 3, stack := v.toList ++ rest }) target → Steps p.tables e below (T.setTop g) target := by
  obtain ⟨mk, methM, cM, hnamed, hmethM, -, -, -, -, -, -, hsigM⟩ := Cond.codeWith_spec hcode
  have hstatic : methM.isStatic = true := Cond.static_spec hnamed hmethM hstat
  obtain ⟨kP, hkP, -⟩ := className_of_methodNamed hnamed
  have hinitP : kP.init = .initialized := Cond.initialized_spec (findClass_of_methodNamed hnamed) hkP hinit
  obtain ⟨vm₁, X₁, hstep₁⟩ := X.invokestatic hexec hown hlink hnamed hmethM hstatic hkP hinitP hy (g := g) hg (argsL := argsL) (rest := rest) (hlen _ hsigM) hstack hdg
  obtain ⟨v, B, X', hpost, hsteps⟩ := hK m meth c ⟨T.setVm vm₁, locs, cells, slots⟩ { g with stack := rest } (.invokestatic index) mk argsL.toArray X₁ hg hsize hdg hW (X₁.named hnamed) (hpre vm₁ X₁.warmed)
  exact ⟨v, vm₁, B, X₁.warmed, X', hpost, fun target h => hstep₁ _ fun acts => by rw [doInvoke_state]; exact hsteps.trans h⟩
theorem vx_runSW {y : MethodName} {bytes cc : ByteArray} {maxL nL mc ms n index : Nat} {ret : Option FieldType} {hh : List (Nat × Nat × Nat × Nat)} {ws : List Cond} {rm : Room} {Pc : Array Value → State → Prop} {Qc : Array Value → State → Outcome → State → Prop} {free : Addr → Prop} {Ts : List Cond} {own : String} {As rest : List Value} {g : JFrame}
    (S : CallFix p m c cc nL s args Ts own) (hM : Met l y ws rm Pc Qc mc ms free) (cw : vx_CSW R s args own index y bytes maxL ret hh ws rm mc ms n) (hp : PreS s H Pc As)
    (hg : g.method = m) (hn : As.length = n) (hsize : g.locals.size = nL) (hstack : g.stack = As.reverse ++ rest) (hW : 2 * g.monitorRoom + (rest.map fun v => v.category).sum ≤ 8) (hdg : decode cc g.pc = .ok (.invokestatic index, 3)) (hf : cells + mc ≤ R.cells ∧ slots + ms ≤ R.slots) :
    va_Run p l e R s m args below meth c H locs cells slots mc ms g rest (Qc As.toArray) (free) := by
  obtain ⟨⟨hrc, hrs, hfr, hlo, hws, hcw⟩, hcode, hini, hy, hlen, hl, hstt⟩ := cw
  have hK : Back l R p e below s args y 3 8 (PreOf R mc ms Pc) (PostOf Qc mc ms free) := va_backW (hh := hh) (bytes := bytes) (maxL := maxL) (ret := ret) hM hp.1 hrc hrs hfr hlo hws hcw (fun a' U hW => word_at hW (Or.inl (by first | rfl | simp [Cond.onTables, Cond.keeps, Cond.steady])) hini)
  obtain ⟨hx, hb, hml, ho, -⟩ := S
  intro T hT X
  obtain ⟨v, vm₁, ⟨U', l2, c2, s2⟩, hW₁, X', ⟨g', mk, t, L, e1, e2, hq, h1, hL, h2, h3⟩, st⟩ := vx_callSW X hx (hh := hh) (bytes := bytes) (maxL := maxL) (ret := ret) ho hl hstt hini hcode hy hK hg (hsize.trans hml.symm) (argsL := As) (rest := rest) (fun sig h => hn.trans (hlen sig h)) hstack hW (by rw [hb]; exact hdg)
    (fun vm₁ hW₁ => ⟨hf.1, hf.2, hp.2 (T.setVm vm₁) hT hW₁⟩)
  dsimp only [Pt.U, Pt.locs, Pt.cells, Pt.slots] at X' e1 e2 h1 h2 h3 st
  subst h1; subst h2; subst h3
  exact ⟨v, (T.setVm vm₁).calling g' mk As.toArray, t, U', L, hT, X', hL, e1, e2, hq, st⟩
/-- not caught here, past rows that name other classes: it goes on to the caller -/
theorem vx_outP {p : Program} {l : Launch} {e : Env} {R : Room} {s : State} {m : MethodId} {args : Array Value} {below : List Frame} {meth : Method} {c : Code} {H : Heap} {locs : List Loc} {cells slots : Nat} {free : Addr → Prop} {ls : Array Slot} {rest : List Value} {Qc : Array Value → State → Outcome → State → Prop} {XC : String → State → State → Prop}
    {pc : Nat} {own E : String} {ce : Cell} {q : Addr} {mc ms : Nat} (hown : s.vm.findClass own = some m.cls) (hlocks : meth.locks = false)
    (hpass : ∀ z ∈ c.exceptionTable.toList, covers z pc = false ∨ (z.catchType ≠ 0 ∧ ∃ nm : String, (Cond.classLink own z.catchType nm).before args s = true ∧ va_Nc E nm s)) (hcell : H[q]? = some ce) (hv : ce.vm = .none) (hcl : s.vm.findClass E = some ce.cls)
    (hx : ∀ t : State, t.heap = H → s.vm.Alike t.vm → XC E s t) (hf : ∀ z ∈ locs, free z.base) (hc : cells ≤ mc) (hs : slots ≤ ms) :
    vx_W p l e R s m args below meth c H locs cells slots (vx_MQ below Qc XC args s mc ms free) (F0 m pc ls rest) q := by
  intro T hT X
  have hpl : e.platform.magicAccessors = ({} : Platform).magicAccessors := by rw [X.admits.platform]
  obtain ⟨vm', hW', X', st⟩ := Stand.outThrough X hlocks q (g := F0 m pc ls rest) rfl rfl rfl (cell := ce) (by rw [hT]; exact hcell) (by rw [hv]; rfl)
    (by obtain ⟨k9, h9, -⟩ := Vm.findClass_spec hcl; exact ⟨k9, h9⟩) (fun z hz => by
      rcases hpass z hz with h | ⟨hz0, nm, hl1, hn1⟩
      · exact Or.inl h
      · obtain ⟨c6, hc6, hcl6⟩ := Cond.classLink_spec hown hl1 e.platform hpl
        obtain ⟨a8, b8, h1, h2, h3⟩ := hn1
        cases Option.some.inj (h1.symm.trans hcl)
        cases Option.some.inj (h2.symm.trans hc6)
        exact Or.inr ⟨hz0, _, hcl6, h3⟩)
  obtain ⟨g₀, hfr⟩ := X'.frames_eq
  have hcell9 : ((T.setVm vm').setFrames (.throwing q :: below)).heap[q]? = some ce := by
    show T.heap[q]? = some ce
    rw [hT]; exact hcell
  have hend : Ended ((T.setVm vm').setFrames (.throwing q :: below)) below (.threw q) := State.frames_setFrames _ (State.cur_lt_of_frames hfr)
  refine ⟨(T.setVm vm').setFrames (.throwing q :: below), ?_, .threw q, X'.here.running, hend, Or.inr ⟨q, rfl, E, ce, locs, hx _ hT (X'.ends _).1.alike, hcell9, hv, hcl, (X'.ends _).1, (X'.ends _).2.mono hc hs, hf⟩⟩
  rw [X.pushThrowing_eq]
  exact st
/-- a thing of a world lies in the heap -/
theorem vx_lt {D : va_G} {cl : List vw_C} {ws : va_W} {H1 : Heap} (h : va_P D cl ws H1) {k : Nat} {q : Nat × va_E} (hk : ws[k]? = some q) : q.1 < H1.size := (h k q hk).lt
end VXS
/-! ===== END ===== -/
/-! ===== BEGIN methods with a table of their own: called by a name, returning or throwing ===== -/
section VXH
/-! vx_backW, vx_callVX, vx_callSX, vx_callVW, vx_runVW, vx_runVX, vx_runSX, vx_ofWH follow the same proofs as their sisters above (Free/Laws.lean, Shelf42/LK1.lean); vx_outP calls Shelf42/NT130.lean (outThrough). -/
section
variable {l : Launch} {R : Room} {p : Program} {e : Env} {below : List Frame} {s : State} {sargs : Array Value} {y : MethodName} {len W9 : Nat}
theorem vx_backW {ws : List Cond} {rm : Room} {Pc : Array Value → State → Prop} {Qc : Array Value → State → Outcome → State → Prop} {XC : String → State → State → Prop} {mc ms : Nat} {free : Addr → Prop} {bytes : ByteArray} {maxL : Nat} {ret : Option FieldType} {hh : List (Nat × Nat × Nat × Nat)}
    (hM : vx_Met l y ws rm Pc Qc XC mc ms free) (hblind : FrameBlind Pc) (hrc : rm.cells = mc) (hrs : rm.slots = ms)
    (hframes : rm.frames + 1 ≤ R.frames) (hlocals : W9 + (maxL + 11) + rm.locals ≤ R.locals)
    (hws : ∀ w ∈ ws, ∀ a' U, s.WarmedH U.vm → w.before a' U = true) (hcode : Cond.codeWith y bytes maxL ret hh ∈ ws) (hinit : ∀ a' U, s.WarmedH U.vm → (Cond.initialized y.cls).before a' U = true) :
    vx_Back l R p e below s sargs y len W9 (PreOf R mc ms Pc) (PostOf Qc mc ms free) (vx_Post XC mc ms free) := by
  intro m meth c A g ig mk a X hg hsize hdg hW hn hp
  have h1 : (headSpec ws rm).pre.before a A.U = true := atoms_intro fun w hw => hws w hw _ _ X.warmed
  have h2 : (Cond.codeWith y bytes maxL ret hh).before a A.U = true := hws _ hcode _ _ X.warmed
  have h3 : (Cond.initialized y.cls).before a A.U = true := hinit _ _ X.warmed
  have h4 : A.cells + (headSpec ws rm).room.cells ≤ R.cells := by rw [show (headSpec ws rm).room.cells = mc from hrc]; exact hp.1
  have h5 : A.slots + (headSpec ws rm).room.slots ≤ R.slots := by rw [show (headSpec ws rm).room.slots = ms from hrs]; exact hp.2.1
  have hPc : Pc a (A.U.calling g mk a) := hblind _ _ _ _ hp.2.2
  obtain ⟨U, Ls, c0, s0⟩ := A
  dsimp only [Pt.U, Pt.locs, Pt.cells, Pt.slots] at h1 h2 h3 h4 h5 X hn hPc ⊢
  obtain ⟨m9, methY, cY, hn9, hmY, hcY, -, hlY, -⟩ := Cond.codeWith_spec h2
  cases Option.some.inj (hn9.symm.trans hn)
  obtain ⟨kY, hkY, -⟩ := className_of_methodNamed hn
  have hinitY : kY.init = .initialized := Cond.initialized_spec (findClass_of_methodNamed hn) hkY h3
  have h : At U g.method c below := by rw [hg]; exact X.here
  have hlocals9 : W9 + (maxL + 11) + (headSpec ws rm).room.locals ≤ R.locals := hlocals
  have happ : (headSpec ws rm).appliesLoose y e.platform (U.calling g mk a) = true :=
    Spec.appliesLoose_calling (g := g) h hdg hn hkY hinitY
      (X.room_calling (g := g) (R' := (headSpec ws rm).room) hsize hmY hcY hframes (by rw [hlY]; omega) h4 h5) h1
  obtain ⟨mid, hmid⟩ := h.above
  have hfr : (U.setTop g).frames = (.java g :: mid) ++ below := by rw [State.frames_setTop' g h.top, hmid]; rfl
  obtain ⟨o, s₂, hsteps, -, hend, hq⟩ := Steps.callFree hM p X.admits X.cas X.clock (acts := []) hfr happ hPc trivial
  have hq' : vx_Q Qc XC mc ms free a (U.calling g mk a) o s₂ := hq
  rw [State.frames_setTop' g h.top] at hend
  obtain ⟨g₀, hg0⟩ := Option.isSome_iff_exists.mp h.top
  obtain ⟨r, hr⟩ := State.topJava?_eq_some.mp hg0
  have hr' : (({ U with heap := s₂.heap, slotsUsed := s₂.slotsUsed } : State).setVm s₂.vm).frames = .java g₀ :: r := hr
  rcases hq' with ⟨hqc, L, hfe, hL⟩ | ⟨q, rfl, E, ce, L, hx, hce, hcv, hcl, hW₂, hsm, hL⟩
  · obtain ⟨⟨v, rfl⟩, hW₂, e2, q2, q3, q4, q5, q6⟩ := id hfe
    have e3 : s₂ = ({ (U.calling g mk a).setFrames s₂.frames with heap := s₂.heap, slotsUsed := s₂.slotsUsed } : State).setVm s₂.vm := by
      have : s₂ = ({ s₂ with vm := (U.calling g mk a).vm } : State).setVm s₂.vm := rfl
      rw [e2] at this
      exact this
    obtain ⟨c₂, i₂, len₂, hc₂, hd₂, hf₂⟩ := hend
    have hW' : U.WarmedH s₂.vm := hW₂
    have hcc : c₂ = c := by
      have h1 : s₂.code? g.method = U.code? g.method := by
        rw [State.code?_eq, State.code?_eq, hW'.alike.method?]
      exact Option.some.inj (hc₂.symm.trans (h1.trans h.code))
    subst hcc
    have hlen : len₂ = len := by rw [hdg] at hd₂; cases hd₂; rfl
    subst hlen
    have hs₂ : s₂ = (({ U with heap := s₂.heap, slotsUsed := s₂.slotsUsed } : State).setVm s₂.vm).setTop { g with pc := g.pc + len₂, stack := v.toList ++ g.stack } := by
      refine e3.trans ?_
      rw [hf₂, State.calling_eq h.top, State.setFrames_setFrames, State.setTop_of_frames _ hr', hr]
      rfl
    have hsame : U.sameButNew ({ U with heap := s₂.heap, slotsUsed := s₂.slotsUsed } : State) L mc ms := by
      refine ⟨?_, q2, q3, q4, q5, q6⟩
      obtain ⟨t, ht, -⟩ := State.frames_cons hr
      show ({ U with heap := s₂.heap, slotsUsed := s₂.slotsUsed } : State) = { U.setFrames U.frames with heap := s₂.heap, slotsUsed := s₂.slotsUsed }
      rw [State.setFrames_self ht]
    subst hg
    refine Or.inl ⟨v, ⟨(({ U with heap := s₂.heap, slotsUsed := s₂.slotsUsed } : State).setVm s₂.vm), Ls ++ L, c0 + mc, s0 + ms⟩,
      ⟨X.admits, X.cas, X.clock, X.frames, X.room, X.hears, X.method, X.code, (X.here.setHeapUsed s₂.heap s₂.slotsUsed).setVm hW'.alike, X.tail, State.WarmedH.trans X.warmed hW', X.limits, X.bytes, X.same.trans (hsame.setVm s.vm)⟩,
      ⟨g, mk, s₂, L, rfl, rfl, hqc, rfl, hL, rfl, rfl⟩, ?_⟩
    show Steps p.tables e below _ ((({ U with heap := s₂.heap, slotsUsed := s₂.slotsUsed } : State).setVm s₂.vm).setTop { g with pc := g.pc + len₂, stack := v.toList ++ g.stack })
    rw [← hs₂]
    exact hsteps
  · obtain ⟨e2, q2, q3, q4, q5, q6⟩ := id hsm
    have e3 : s₂ = ({ (U.calling g mk a).setFrames s₂.frames with heap := s₂.heap, slotsUsed := s₂.slotsUsed } : State).setVm s₂.vm := by
      have : s₂ = ({ s₂ with vm := (U.calling g mk a).vm } : State).setVm s₂.vm := rfl
      rw [e2] at this
      exact this
    have hf₂ : s₂.frames = .throwing q :: .java g :: U.frames.tail := hend
    have hW' : U.WarmedH s₂.vm := hW₂
    have hs₂ : s₂ = ((({ U with heap := s₂.heap, slotsUsed := s₂.slotsUsed } : State).setVm s₂.vm).setTop g).pushFrame (.throwing q) := by
      refine e3.trans ?_
      rw [hf₂, State.calling_eq h.top, State.setFrames_setFrames, State.pushFrame, State.frames_setTop _ hr', State.setTop_of_frames _ hr', State.setFrames_setFrames, hr]
      rfl
    have hsame : U.sameButNew ({ U with heap := s₂.heap, slotsUsed := s₂.slotsUsed } : State) L mc ms := by
      refine ⟨?_, q2, q3, q4, q5, q6⟩
      obtain ⟨t, ht, -⟩ := State.frames_cons hr
      show ({ U with heap := s₂.heap, slotsUsed := s₂.slotsUsed } : State) = { U.setFrames U.frames with heap := s₂.heap, slotsUsed := s₂.slotsUsed }
      rw [State.setFrames_self ht]
    subst hg
    refine Or.inr ⟨q, ⟨(({ U with heap := s₂.heap, slotsUsed := s₂.slotsUsed } : State).setVm s₂.vm), Ls ++ L, c0 + mc, s0 + ms⟩,
      ⟨X.admits, X.cas, X.clock, X.frames, X.room, X.hears, X.method, X.code, (X.here.setHeapUsed s₂.heap s₂.slotsUsed).setVm hW'.alike, X.tail, State.WarmedH.trans X.warmed hW', X.limits, X.bytes, X.same.trans (hsame.setVm s.vm)⟩,
      ⟨g, mk, s₂, L, E, ce, rfl, rfl, hx, hce, hcv, hcl, rfl, hL, rfl, rfl⟩, ?_⟩
    show Steps p.tables e below _ (((({ U with heap := s₂.heap, slotsUsed := s₂.slotsUsed } : State).setVm s₂.vm).setTop g).pushFrame (.throwing q))
    rw [← hs₂]
    exact hsteps
end
variable {p : Program} {l : Launch} {e : Env} {R : Room} {s : State} {m : MethodId} {args : Array Value} {below : List Frame} {meth : Method} {c : Code} {T : State} {H : Heap} {locs : List Loc} {cells slots : Nat}
theorem vx_callVX (X : Stand p l e R s m args below meth c T locs cells slots) (hexec : p.tables.exec = Jvm.exec) {own C : String} {index : Nat} {y : MethodName} {bytes : ByteArray} {maxL : Nat} {ret : Option FieldType} {hh : List (Nat × Nat × Nat × Nat)}
    (hown : s.vm.findClass own = some m.cls) (hlink : (Cond.methodLink own index y).before args s = true) (hinst : (Cond.instanceMethod y).before args s = true) (hsel : (Cond.selects C y y).before args s = true)
    (hcode : (Cond.codeWith y bytes maxL ret hh).before args s = true) (hy : y.cls ≠ "java/lang/invoke/MethodHandle" ∧ y.cls ≠ "java/lang/invoke/VarHandle")
    {W9 : Nat} {Pre : Pt → Array Value → Prop} {Post : Pt → Array Value → Option Value → Pt → Prop} {PostX : Pt → Array Value → Addr → Pt → Prop} (hK : vx_Back l R p e below s args y 3 W9 Pre Post PostX)
    {b : Addr} {cellB : Cell} (hcell : T.heap[b]? = some cellB) (hobj : cellB.vm.isStatics = false) (hcls : s.vm.findClass C = some cellB.cls)
    {g : JFrame} (hg : g.method = m) (hsize : g.locals.size = c.maxLocals) {argsL rest : List Value} (hlen : ∀ sig, parseMethodDescriptor y.desc = some sig → argsL.length = sig.parameters.length)
    (hstack : g.stack = argsL.reverse ++ .ref b :: rest) (hW : 2 * g.monitorRoom + (rest.map fun v => v.category).sum ≤ W9) (hdg : decode c.code g.pc = .ok (.invokevirtual index, 3))
    (hpre : ∀ vm₁, s.WarmedH vm₁ → Pre ⟨T.setVm vm₁, locs, cells, slots⟩ (Value.ref b :: argsL).toArray) :
    (∃ (v : Option Value) (vm₁ : Vm) (B : Pt), s.WarmedH vm₁ ∧ Stand p l e R s m args below meth c B.U B.locs B.cells B.slots ∧ Post ⟨T.setVm vm₁, locs, cells, slots⟩ (Value.ref b :: argsL).toArray v B ∧
      ∀ target, Steps p.tables e below (B.U.setTop { g with pc := g.pc + 3, stack := v.toList ++ rest }) target → Steps p.tables e below (T.setTop g) target) ∨
    (∃ (q : Addr) (vm₁ : Vm) (B : Pt), s.WarmedH vm₁ ∧ Stand p l e R s m args below meth c B.U B.locs B.cells B.slots ∧ PostX ⟨T.setVm vm₁, locs, cells, slots⟩ (Value.ref b :: argsL).toArray q B ∧
      Steps p.tables e below (T.setTop g) ((B.U.setTop { g with stack := rest }).pushFrame (.throwing q))) := by
  obtain ⟨mk, methM, hnamed, hmethM, hstM, habM⟩ := Cond.instanceMethod_spec hinst
  obtain ⟨m8, methM', cM, hn8, hmethM', -, -, -, -, -, -, hsigM⟩ := Cond.codeWith_spec hcode
  cases Option.some.inj (hn8.symm.trans hnamed)
  cases hmethM.symm.trans hmethM'
  obtain ⟨c2, r2, m2, q1, q2, q3, q4, kP, hkP, hkPi⟩ := Cond.selects_spec hsel
  cases hcls.symm.trans q1
  cases (State.methodFound?_of_named hnamed hy).symm.trans q2
  cases hnamed.symm.trans q3
  have hselP : selectMethod e.platform s.vm cellB.cls mk = .method mk := by rw [Launch.admits_selectMethod X.admits]; exact q4
  obtain ⟨vm₁, X₁, hstep₁⟩ := X.invokevirtual hexec hown hlink hnamed hmethM hstM hkP hkPi hy (a := b) (cell := cellB) hcell
    (fun z h => by rw [h] at hobj; cases hobj) hselP hmethM habM hkP hkPi (g := g) hg (argsL := argsL) (rest := rest) (hlen _ hsigM) hstack hdg
  rcases hK m meth c ⟨T.setVm vm₁, locs, cells, slots⟩ { g with stack := rest } (.invokevirtual index) mk (Value.ref b :: argsL).toArray X₁ hg hsize hdg hW (X₁.named hnamed) (hpre vm₁ X₁.warmed) with ⟨v, B, X', hpost, hsteps⟩ | ⟨q, B, X', hpost, hsteps⟩
  · exact Or.inl ⟨v, vm₁, B, X₁.warmed, X', hpost, fun target h => hstep₁ _ fun acts => by rw [doInvoke_state]; exact hsteps.trans h⟩
  · exact Or.inr ⟨q, vm₁, B, X₁.warmed, X', hpost, hstep₁ _ fun acts => by rw [doInvoke_state]; exact hsteps⟩
theorem vx_callSX (X : Stand p l e R s m args below meth c T locs cells slots) (hexec : p.tables.exec = Jvm.exec) {own : String} {index : Nat} {y : MethodName} {bytes : ByteArray} {maxL : Nat} {ret : Option FieldType} {hh : List (Nat × Nat × Nat × Nat)}
    (hown : s.vm.findClass own = some m.cls) (hlink : (Cond.methodLink own index y).before args s = true) (hstat : (Cond.static y).before args s = true) (hinit : (Cond.initialized y.cls).before args s = true)
    (hcode : (Cond.codeWith y bytes maxL ret hh).before args s = true) (hy : y.cls ≠ "java/lang/invoke/MethodHandle" ∧ y.cls ≠ "java/lang/invoke/VarHandle")
    {W9 : Nat} {Pre : Pt → Array Value → Prop} {Post : Pt → Array Value → Option Value → Pt → Prop} {PostX : Pt → Array Value → Addr → Pt → Prop} (hK : vx_Back l R p e below s args y 3 W9 Pre Post PostX)
    {g : JFrame} (hg : g.method = m) (hsize : g.locals.size = c.maxLocals) {argsL rest : List Value} (hlen : ∀ sig, parseMethodDescriptor y.desc = some sig → argsL.length = sig.parameters.length)
    (hstack : g.stack = argsL.reverse ++ rest) (hW : 2 * g.monitorRoom + (rest.map fun v => v.category).sum ≤ W9) (hdg : decode c.code g.pc = .ok (.invokestatic index, 3))
    (hpre : ∀ vm₁, s.WarmedH vm₁ → Pre ⟨T.setVm vm₁, locs, cells, slots⟩ argsL.toArray) :
    (∃ (v : Option Value) (vm₁ : Vm) (B : Pt), s.WarmedH vm₁ ∧ Stand p l e R s m args below meth c B.U B.locs B.cells B.slots ∧ Post ⟨T.setVm vm₁, locs, cells, slots⟩ argsL.toArray v B ∧
      ∀ target, Steps p.tables e below (B.U.setTop { g with pc := g.pc + 3, stack := v.toList ++ rest }) target → Steps p.tables e below (T.setTop g) target) ∨
    (∃ (q : Addr) (vm₁ : Vm) (B : Pt), s.WarmedH vm₁ ∧ Stand p l e R s m args below meth c B.U B.locs B.cells B.slots ∧ PostX ⟨T.setVm vm₁, locs, cells, slots⟩ argsL.toArray q B ∧
      Steps p.tables e below (T.setTop g) ((B.U.setTop { g with stack := rest }).pushFrame (.throwing q))) := by
  obtain ⟨mk, methM, cM, hnamed, hmethM, -, -, -, -, -, -, hsigM⟩ := Cond.codeWith_spec hcode
  have hstatic : methM.isStatic = true := Cond.static_spec hnamed hmethM hstat
  obtain ⟨kP, hkP, -⟩ := className_of_methodNamed hnamed
  have hinitP : kP.init = .initialized := Cond.initialized_spec (findClass_of_methodNamed hnamed) hkP hinit
  obtain ⟨vm₁, X₁, hstep₁⟩ := X.invokestatic hexec hown hlink hnamed hmethM hstatic hkP hinitP hy (g := g) hg (argsL := argsL) (rest := rest) (hlen _ hsigM) hstack hdg
  rcases hK m meth c ⟨T.setVm vm₁, locs, cells, slots⟩ { g with stack := rest } (.invokestatic index) mk argsL.toArray X₁ hg hsize hdg hW (X₁.named hnamed) (hpre vm₁ X₁.warmed) with ⟨v, B, X', hpost, hsteps⟩ | ⟨q, B, X', hpost, hsteps⟩
  · exact Or.inl ⟨v, vm₁, B, X₁.warmed, X', hpost, fun target h => hstep₁ _ fun acts => by rw [doInvoke_state]; exact hsteps.trans h⟩
  · exact Or.inr ⟨q, vm₁, B, X₁.warmed, X', hpost, hstep₁ _ fun acts => by rw [doInvoke_state]; exact hsteps⟩
theorem vx_callVW (X : Stand p l e R s m args below meth c T locs cells slots) (hexec : p.tables.exec = Jvm.exec) {own C : String} {index : Nat} {y : MethodName} {bytes : ByteArray} {maxL : Nat} {ret : Option FieldType} {hh : List (Nat × Nat × Nat × Nat)}
    (hown : s.vm.findClass own = some m.cls) (hlink : (Cond.methodLink own index y).before args s = true) (hinst : (Cond.instanceMethod y).before args s = true) (hsel : (Cond.selects C y y).before args s = true)
    (hcode : (Cond.codeWith y bytes maxL ret hh).before args s = true) (hy : y.cls ≠ "java/lang/invoke/MethodHandle" ∧ y.cls ≠ "java/lang/invoke/VarHandle")
    {W9 : Nat} {Pre : Pt → Array Value → Prop} {Post : Pt → Array Value → Option Value → Pt → Prop} (hK : Back l R p e below s args y 3 W9 Pre Post)
    {b : Addr} {cellB : Cell} (hcell : T.heap[b]? = some cellB) (hobj : cellB.vm.isStatics = false) (hcls : s.vm.findClass C = some cellB.cls)
    {g : JFrame} (hg : g.method = m) (hsize : g.locals.size = c.maxLocals) {argsL rest : List Value} (hlen : ∀ sig, parseMethodDescriptor y.desc = some sig → argsL.length = sig.parameters.length)
    (hstack : g.stack = argsL.reverse ++ .ref b :: rest) (hW : 2 * g.monitorRoom + (rest.map fun v => v.category).sum ≤ W9) (hdg : decode c.code g.pc = .ok (.invokevirtual index, 3))
    (hpre : ∀ vm₁, s.WarmedH vm₁ → Pre ⟨T.setVm vm₁, locs, cells, slots⟩ (Value.ref b :: argsL).toArray) :
    ∃ (v : Option Value) (vm₁ : Vm) (B : Pt), s.WarmedH vm₁ ∧ Stand p l e R s m args below meth c B.U B.locs B.cells B.slots ∧ Post ⟨T.setVm vm₁, locs, cells, slots⟩ (Value.ref b :: argsL).toArray v B ∧
      ∀ target, Steps p.tables e below (B.U.setTop { g with pc := g.pc + 3, stack := v.toList ++ rest }) target → Steps p.tables e below (T.setTop g) target := by
  obtain ⟨mk, methM, hnamed, hmethM, hstM, habM⟩ := Cond.instanceMethod_spec hinst
  obtain ⟨m8, methM', cM, hn8, hmethM', -, -, -, -, -, -, hsigM⟩ := Cond.codeWith_spec hcode
  cases Option.some.inj (hn8.symm.trans hnamed)
  cases hmethM.symm.trans hmethM'
  obtain ⟨c2, r2, m2, q1, q2, q3, q4, kP, hkP, hkPi⟩ := Cond.selects_spec hsel
  cases hcls.symm.trans q1
  cases (State.methodFound?_of_named hnamed hy).symm.trans q2
  cases hnamed.symm.trans q3
  have hselP : selectMethod e.platform s.vm cellB.cls mk = .method mk := by rw [Launch.admits_selectMethod X.admits]; exact q4
  obtain ⟨vm₁, X₁, hstep₁⟩ := X.invokevirtual hexec hown hlink hnamed hmethM hstM hkP hkPi hy (a := b) (cell := cellB) hcell
    (fun z h => by rw [h] at hobj; cases hobj) hselP hmethM habM hkP hkPi (g := g) hg (argsL := argsL) (rest := rest) (hlen _ hsigM) hstack hdg
  obtain ⟨v, B, X', hpost, hsteps⟩ := hK m meth c ⟨T.setVm vm₁, locs, cells, slots⟩ { g with stack := rest } (.invokevirtual index) mk (Value.ref b :: argsL).toArray X₁ hg hsize hdg hW (X₁.named hnamed) (hpre vm₁ X₁.warmed)
  exact ⟨v, vm₁, B, X₁.warmed, X', hpost, fun target h => hstep₁ _ fun acts => by rw [doInvoke_state]; exact hsteps.trans h⟩
abbrev vx_CVW (R : Room) (s : State) (args : Array Value) (own C : String) (index : Nat) (y : MethodName) (bytes : ByteArray) (maxL : Nat) (ret : Option FieldType) (hh : List (Nat × Nat × Nat × Nat)) (ws : List Cond) (rm : Room) (mc ms n : Nat) : Prop :=
  (rm.cells = mc ∧ rm.slots = ms ∧ rm.frames + 1 ≤ R.frames ∧ 8 + (maxL + 11) + rm.locals ≤ R.locals ∧ (∀ w ∈ ws, ∀ (a' : Array Value) (U : State), s.WarmedH U.vm → w.before a' U = true) ∧ Cond.codeWith y bytes maxL ret hh ∈ ws) ∧
  (Cond.codeWith y bytes maxL ret hh).before args s = true ∧ (Cond.initialized y.cls).before args s = true ∧ (y.cls ≠ "java/lang/invoke/MethodHandle" ∧ y.cls ≠ "java/lang/invoke/VarHandle") ∧
  (∀ sig, parseMethodDescriptor y.desc = some sig → n = sig.parameters.length) ∧ (Cond.methodLink own index y).before args s = true ∧ (Cond.instanceMethod y).before args s = true ∧ (Cond.selects C y y).before args s = true
theorem vx_cwVW {own C : String} {index maxL mc ms : Nat} {y : MethodName} {bytes : ByteArray} {ret : Option FieldType} {hh : List (Nat × Nat × Nat × Nat)} {Ts ws ws' : List Cond} {rm : Room} (n : Nat) (ht : ∀ w ∈ Ts, w.before args s = true) (hT : GoodIn Ts (wsV own index C y ws)) (hw : ws = Cond.codeWith y bytes maxL ret hh :: ws') (hrc : rm.cells = mc) (hrs : rm.slots = ms)
    (hd : y.cls = C ∧ y.cls ≠ "java/lang/invoke/MethodHandle" ∧ y.cls ≠ "java/lang/invoke/VarHandle" ∧ (parseMethodDescriptor y.desc).map (fun d => d.parameters.length) = some n) (hR : rm.frames + 1 ≤ R.frames ∧ 8 + (maxL + 11) + rm.locals ≤ R.locals) :
    vx_CVW R s args own C index y bytes maxL ret hh ws rm mc ms n := by
  obtain ⟨hC, hd⟩ := hd
  subst hC
  have ok : ∀ w ∈ wsV own index y.cls y ws, w.before args s = true := fun w h => ht w (hT w h).1
  have hG : GoodIn Ts ws := fun w h => hT w (by unfold wsV; exact List.mem_append_right _ h)
  have hc : Cond.codeWith y bytes maxL ret hh ∈ ws := by rw [hw]; exact List.mem_cons_self
  refine ⟨⟨hrc, hrs, hR.1, hR.2, pay_in ht hG, hc⟩, ht _ (hG _ hc).1, ok _ (by simp [wsV]), ⟨hd.1, hd.2.1⟩, fun sig h => ?_, ok _ (by simp [wsV]), ok _ (by simp [wsV]), ok _ (by simp [wsV])⟩
  have h2 := hd.2.2
  rw [h] at h2
  exact (Option.some.inj h2).symm
theorem vx_runVW {y : MethodName} {bytes cc : ByteArray} {maxL nL mc ms n index : Nat} {ret : Option FieldType} {hh : List (Nat × Nat × Nat × Nat)} {ws : List Cond} {rm : Room} {Pc : Array Value → State → Prop} {Qc : Array Value → State → Outcome → State → Prop} {free : Addr → Prop} {Ts : List Cond} {own C : String} {b : Addr} {As rest : List Value} {g : JFrame}
    (S : CallFix p m c cc nL s args Ts own) (hM : Met l y ws rm Pc Qc mc ms free) (cw : vx_CVW R s args own C index y bytes maxL ret hh ws rm mc ms n) (hp : PreV s H C b Pc As)
    (hg : g.method = m) (hn : As.length = n) (hsize : g.locals.size = nL) (hstack : g.stack = As.reverse ++ .ref b :: rest) (hW : 2 * g.monitorRoom + (rest.map fun v => v.category).sum ≤ 8) (hdg : decode cc g.pc = .ok (.invokevirtual index, 3)) (hf : cells + mc ≤ R.cells ∧ slots + ms ≤ R.slots) :
    va_Run p l e R s m args below meth c H locs cells slots mc ms g rest (Qc (Value.ref b :: As).toArray) free := by
  obtain ⟨⟨hrc, hrs, hfr, hlo, hws, hcw⟩, hcode, hini, hy, hlen, hl, hin, hse⟩ := cw
  have hK : Back l R p e below s args y 3 8 (PreOf R mc ms Pc) (PostOf Qc mc ms free) := va_backW (hh := hh) (bytes := bytes) (maxL := maxL) (ret := ret) hM hp.1 hrc hrs hfr hlo hws hcw (fun a' U hW => word_at hW (Or.inl (by first | rfl | simp [Cond.onTables, Cond.keeps, Cond.steady])) hini)
  obtain ⟨hx, hb, hml, ho, -⟩ := S
  obtain ⟨-, ⟨cellB, hcB, hoB, hclB⟩, hPc⟩ := hp
  intro T hT X
  obtain ⟨v, vm₁, ⟨U', l2, c2, s2⟩, hW₁, X', ⟨g', mk, t, L, e1, e2, hq, h1, hL, h2, h3⟩, st⟩ := vx_callVW X hx (C := C) (hh := hh) (bytes := bytes) (maxL := maxL) (ret := ret) ho hl hin hse hcode hy hK (by rw [hT]; exact hcB) hoB hclB hg (hsize.trans hml.symm) (argsL := As) (rest := rest) (fun sig h => hn.trans (hlen sig h)) hstack hW (by rw [hb]; exact hdg)
    (fun vm₁ hW₁ => ⟨hf.1, hf.2, hPc (T.setVm vm₁) hT hW₁⟩)
  dsimp only [Pt.U, Pt.locs, Pt.cells, Pt.slots] at X' e1 e2 h1 h2 h3 st
  subst h1; subst h2; subst h3
  exact ⟨v, (T.setVm vm₁).calling g' mk (Value.ref b :: As).toArray, t, U', L, hT, X', hL, e1, e2, hq, st⟩
section
variable {y : MethodName} {bytes cc : ByteArray} {maxL nL mc ms n index : Nat} {ret : Option FieldType} {ws : List Cond} {rm : Room} {Pc : Array Value → State → Prop} {Qc : Array Value → State → Outcome → State → Prop} {XC : String → State → State → Prop} {free : Addr → Prop} {Ts : List Cond} {own C : String} {b : Addr} {As rest : List Value} {g : JFrame}
theorem vx_runVX {hh : List (Nat × Nat × Nat × Nat)} (S : CallFix p m c cc nL s args Ts own) (hM : vx_Met l y ws rm Pc Qc XC mc ms free) (cw : vx_CVW R s args own C index y bytes maxL ret hh ws rm mc ms n) (hp : PreV s H C b Pc As)
    (hg : g.method = m) (hn : As.length = n) (hsize : g.locals.size = nL) (hstack : g.stack = As.reverse ++ .ref b :: rest) (hW : 2 * g.monitorRoom + (rest.map fun v => v.category).sum ≤ 8) (hdg : decode cc g.pc = .ok (.invokevirtual index, 3)) (hf : cells + mc ≤ R.cells ∧ slots + ms ≤ R.slots) :
    vx_Run p l e R s m args below meth c H locs cells slots mc ms g rest (Qc (Value.ref b :: As).toArray) XC free := by
  obtain ⟨⟨hrc, hrs, hfr, hlo, hws, hcw⟩, hcode, hini, hy, hlen, hl, hin, hse⟩ := cw
  have hK : vx_Back l R p e below s args y 3 8 (PreOf R mc ms Pc) (PostOf Qc mc ms free) (vx_Post XC mc ms free) := vx_backW (hh := hh) (bytes := bytes) (maxL := maxL) (ret := ret) hM hp.1 hrc hrs hfr hlo hws hcw (fun a' U hW => word_at hW (Or.inl (by first | rfl | simp [Cond.onTables, Cond.keeps, Cond.steady])) hini)
  obtain ⟨hx, hb, hml, ho, -⟩ := S
  obtain ⟨-, ⟨cellB, hcB, hoB, hclB⟩, hPc⟩ := hp
  intro T hT X
  rcases vx_callVX X hx (C := C) (hh := hh) (bytes := bytes) (maxL := maxL) (ret := ret) ho hl hin hse hcode hy hK (by rw [hT]; exact hcB) hoB hclB hg (hsize.trans hml.symm) (argsL := As) (rest := rest) (fun sig h => hn.trans (hlen sig h)) hstack hW (by rw [hb]; exact hdg)
    (fun vm₁ hW₁ => ⟨hf.1, hf.2, hPc (T.setVm vm₁) hT hW₁⟩) with ⟨v, vm₁, ⟨U', l2, c2, s2⟩, hW₁, X', ⟨g', mk, t, L, e1, e2, hq, h1, hL, h2, h3⟩, st⟩ | ⟨q, vm₁, ⟨U', l2, c2, s2⟩, hW₁, X', ⟨g', mk, t, L, E, ce, e1, e2, hq, hce, hcv, hcl, h1, hL, h2, h3⟩, st⟩
  · dsimp only [Pt.U, Pt.locs, Pt.cells, Pt.slots] at X' e1 e2 h1 h2 h3 st
    subst h1; subst h2; subst h3
    exact Or.inl ⟨v, (T.setVm vm₁).calling g' mk (Value.ref b :: As).toArray, t, U', L, hT, X', hL, e1, e2, hq, st⟩
  · dsimp only [Pt.U, Pt.locs, Pt.cells, Pt.slots] at X' e1 e2 h1 h2 h3 st hcl
    subst h1; subst h2; subst h3
    exact Or.inr ⟨q, (T.setVm vm₁).calling g' mk (Value.ref b :: As).toArray, t, U', L, E, ce, hT, X', hL, e1, e2, hq, hce, hcv, vx_cls hW₁ hcl, st⟩
theorem vx_runSX {hh : List (Nat × Nat × Nat × Nat)} (S : CallFix p m c cc nL s args Ts own) (hM : vx_Met l y ws rm Pc Qc XC mc ms free) (cw : vx_CSW R s args own index y bytes maxL ret hh ws rm mc ms n) (hp : PreS s H Pc As)
    (hg : g.method = m) (hn : As.length = n) (hsize : g.locals.size = nL) (hstack : g.stack = As.reverse ++ rest) (hW : 2 * g.monitorRoom + (rest.map fun v => v.category).sum ≤ 8) (hdg : decode cc g.pc = .ok (.invokestatic index, 3)) (hf : cells + mc ≤ R.cells ∧ slots + ms ≤ R.slots) :
    vx_Run p l e R s m args below meth c H locs cells slots mc ms g rest (Qc As.toArray) XC free := by
  obtain ⟨⟨hrc, hrs, hfr, hlo, hws, hcw⟩, hcode, hini, hy, hlen, hl, hstt⟩ := cw
  have hK : vx_Back l R p e below s args y 3 8 (PreOf R mc ms Pc) (PostOf Qc mc ms free) (vx_Post XC mc ms free) := vx_backW (hh := hh) (bytes := bytes) (maxL := maxL) (ret := ret) hM hp.1 hrc hrs hfr hlo hws hcw (fun a' U hW => word_at hW (Or.inl (by first | rfl | simp [Cond.onTables, Cond.keeps, Cond.steady])) hini)
  obtain ⟨hx, hb, hml, ho, -⟩ := S
  intro T hT X
  rcases vx_callSX X hx (hh := hh) (bytes := bytes) (maxL := maxL) (ret := ret) ho hl hstt hini hcode hy hK hg (hsize.trans hml.symm) (argsL := As) (rest := rest) (fun sig h => hn.trans (hlen sig h)) hstack hW (by rw [hb]; exact hdg)
    (fun vm₁ hW₁ => ⟨hf.1, hf.2, hp.2 (T.setVm vm₁) hT hW₁⟩) with ⟨v, vm₁, ⟨U', l2, c2, s2⟩, hW₁, X', ⟨g', mk, t, L, e1, e2, hq, h1, hL, h2, h3⟩, st⟩ | ⟨q, vm₁, ⟨U', l2, c2, s2⟩, hW₁, X', ⟨g', mk, t, L, E, ce, e1, e2, hq, hce, hcv, hcl, h1, hL, h2, h3⟩, st⟩
  · dsimp only [Pt.U, Pt.locs, Pt.cells, Pt.slots] at X' e1 e2 h1 h2 h3 st
    subst h1; subst h2; subst h3
    exact Or.inl ⟨v, (T.setVm vm₁).calling g' mk As.toArray, t, U', L, hT, X', hL, e1, e2, hq, st⟩
  · dsimp only [Pt.U, Pt.locs, Pt.cells, Pt.slots] at X' e1 e2 h1 h2 h3 st hcl
    subst h1; subst h2; subst h3
    exact Or.inr ⟨q, (T.setVm vm₁).calling g' mk As.toArray, t, U', L, E, ce, hT, X', hL, e1, e2, hq, hce, hcv, vx_cls hW₁ hcl, st⟩
end
end VXH
theorem vx_ofWH {l : Launch} {y : MethodName} {ws ws' : List Cond} {rm : Room} {Pc : Array Value → State → Prop} {Qc : Array Value → State → Outcome → State → Prop} {XC : String → State → State → Prop} {mc ms : Nat} {free : Addr → Prop} {cc : ByteArray} {maxL : Nat} {ret : Option FieldType} {hh : List (Nat × Nat × Nat × Nat)}
    (hy : plainName y.cls = true) (hw : ws = Cond.codeWith y cc maxL ret hh :: ws')
    (body : ∀ p e s m args below meth c s₁, BodyLoose p l y (headSpec ws rm) cc maxL ret e s m args below meth c s₁ → c.maxLocals = maxL → Pc args s →
      W p l e (headSpec ws rm).room s m args below meth c s.heap [] 0 0 (vx_MQ below Qc XC args s mc ms free) (entryFrame m args maxL)) : vx_Met l y ws rm Pc Qc XC mc ms free := by
  refine MetFree.of_bodyS (code := cc) (maxLocals := maxL) (ret := ret) hy ?_ ?_
  · intro args s m h hn
    obtain ⟨m9, meth, c, hn9, h1, h2, h3, h4, -, h5, h6, -⟩ := Cond.codeWith_spec (atoms_spec (ws := ws) h _ (by rw [hw]; exact List.mem_cons_self))
    cases hn.symm.trans hn9
    exact ⟨meth, c, h1, h2, h3, h4, h5, h6⟩
  · intro p e s m args below meth c s₁ B hml hP _
    have hh0 : s₁.heap = s.heap := by rw [B.state]; rfl
    obtain ⟨t, a1, o, b1, b2, b3⟩ := body p e s m args below meth c s₁ B hml hP s₁ hh0 (Stand.of_body B)
    exact ⟨t, o, a1, b1, b2, b3⟩
/-! ===== END ===== -/
end
section
/-! the words that all contracts share -/
abbrev mb_tys (cyI cyZ cyJ : ClassId) : List (ClassId × FieldType) := [(cyI, .int), (cyZ, .boolean), (cyJ, .long)]
/-- a value that is a boolean -/
def mb_B (v : Int32) : Prop := narrow .boolean (.int v) = .int v
theorem mb_B_ite {c : Prop} [Decidable c] {a b : Int32} (ha : mb_B a) (hb : mb_B b) : mb_B (if c then a else b) := by
  split
  · exact ha
  · exact hb
theorem mb_B0 : mb_B 0 := rfl
theorem mb_B1 : mb_B 1 := rfl
theorem mb_lt2 (c : Prop) [Decidable c] : (if c then 0 else 1) < 2 := by split <;> decide
theorem lg_eq (x y : Int64) : lg_cmp x y = 0 ↔ x = y := by
  unfold lg_cmp
  by_cases h1 : y < x
  · simp only [h1, if_true]
    exact ⟨fun h => absurd h (by decide), fun h => by subst h; exact absurd h1 (Int64.lt_irrefl)⟩
  · simp only [h1, if_false]
    by_cases h2 : x = y
    · simp [h2]
    · simp only [h2, if_false]
      exact ⟨fun h => absurd h (by decide), fun h => absurd h (by simp)⟩
theorem lg_gt (x y : Int64) : 0 < lg_cmp x y ↔ y < x := by
  unfold lg_cmp
  by_cases h1 : y < x
  · simp only [h1, if_true]
    exact ⟨fun _ => trivial, fun _ => by decide⟩
  · simp only [h1, if_false]
    by_cases h2 : x = y
    · simp [h2]
    · simp only [h2, if_false]
      exact ⟨fun h => absurd h (by decide), fun h => absurd h (by simp)⟩
theorem lg_lt (x y : Int64) : lg_cmp x y < 0 ↔ x < y := by
  unfold lg_cmp
  by_cases h1 : y < x
  · simp only [h1, if_true]
    refine ⟨fun h => absurd h (by decide), fun h => ?_⟩
    rw [Int64.lt_iff_toInt_lt] at h h1
    omega
  · simp only [h1, if_false]
    by_cases h2 : x = y
    · subst h2
      simp
    · simp only [h2, if_false]
      refine ⟨fun _ => ?_, fun _ => by decide⟩
      rw [Int64.lt_iff_toInt_lt] at h1 ⊢
      have h3 : x.toInt ≠ y.toInt := fun h => h2 (Int64.toInt_inj.mp h)
      omega
theorem lg_ge (x y : Int64) : 0 ≤ lg_cmp x y ↔ y ≤ x := by
  have h := lg_lt x y
  rw [Int64.le_iff_toInt_le]
  rw [Int64.lt_iff_toInt_lt] at h
  rw [Int32.lt_iff_toInt_lt] at h
  rw [Int32.le_iff_toInt_le]
  have e0 : (0 : Int32).toInt = 0 := rfl
  rw [e0] at h ⊢
  constructor
  · intro g
    have : ¬ (x.toInt < y.toInt) := fun q => by have := h.mpr q; omega
    omega
  · intro g
    have : ¬ ((lg_cmp x y).toInt < 0) := fun q => by have := h.mp q; omega
    omega
theorem lg_le (x y : Int64) : lg_cmp x y ≤ 0 ↔ x ≤ y := by
  have h := lg_gt x y
  rw [Int64.le_iff_toInt_le]
  rw [Int64.lt_iff_toInt_lt] at h
  rw [Int32.lt_iff_toInt_lt] at h
  rw [Int32.le_iff_toInt_le]
  have e0 : (0 : Int32).toInt = 0 := rfl
  rw [e0] at h ⊢
  constructor
  · intro g
    have : ¬ (y.toInt < x.toInt) := fun q => by have := h.mpr q; omega
    omega
  · intro g
    have : ¬ (0 < (lg_cmp x y).toInt) := fun q => by have := h.mp q; omega
    omega
section MBL
variable {p : Program} {l : Launch} {e : Env} {R : Room} {s : State} {m : MethodId} {args : Array Value} {below : List Frame} {meth : Method} {c : Code} {H : Heap} {locs : List Loc} {cells slots : Nat} {Q : State → Prop} {cc : ByteArray} {pc : Nat} {ls : Array Slot} {rest : List Value}
theorem mb_lc_eq (hx : p.tables.exec = Jvm.exec) (hb : c.code = cc) {x y : Int64} {off : Int} {tgt : Nat} (h1 : decode cc pc = .ok (.lcmp, 1)) (h2 : decode cc (pc + 1) = .ok (.ifCond .eq off, 3)) (ht : ((pc + 1 : Nat) : Int) + off = (tgt : Int)) (kt : x = y → W p l e R s m args below meth c H locs cells slots Q (F0 m tgt ls rest)) (kf : ¬ x = y → W p l e R s m args below meth c H locs cells slots Q (F0 m (pc + 1 + 3) ls rest)) : W p l e R s m args below meth c H locs cells slots Q (F0 m pc ls (.long y :: .long x :: rest)) :=
  W.lcmp hx hb h1 (lv_if_eq hx hb h2 ht (fun c => kt ((lg_eq x y).mp c)) (fun c => kf (fun h => c ((lg_eq x y).mpr h))))
theorem mb_lc_ne (hx : p.tables.exec = Jvm.exec) (hb : c.code = cc) {x y : Int64} {off : Int} {tgt : Nat} (h1 : decode cc pc = .ok (.lcmp, 1)) (h2 : decode cc (pc + 1) = .ok (.ifCond .ne off, 3)) (ht : ((pc + 1 : Nat) : Int) + off = (tgt : Int)) (kt : ¬ x = y → W p l e R s m args below meth c H locs cells slots Q (F0 m tgt ls rest)) (kf : x = y → W p l e R s m args below meth c H locs cells slots Q (F0 m (pc + 1 + 3) ls rest)) : W p l e R s m args below meth c H locs cells slots Q (F0 m pc ls (.long y :: .long x :: rest)) :=
  W.lcmp hx hb h1 (lv_if_ne hx hb h2 ht (fun c => kt (fun h => c ((lg_eq x y).mpr h))) (fun c => kf ((lg_eq x y).mp c)))
theorem mb_lc_lt (hx : p.tables.exec = Jvm.exec) (hb : c.code = cc) {x y : Int64} {off : Int} {tgt : Nat} (h1 : decode cc pc = .ok (.lcmp, 1)) (h2 : decode cc (pc + 1) = .ok (.ifCond .lt off, 3)) (ht : ((pc + 1 : Nat) : Int) + off = (tgt : Int)) (kt : x < y → W p l e R s m args below meth c H locs cells slots Q (F0 m tgt ls rest)) (kf : ¬ x < y → W p l e R s m args below meth c H locs cells slots Q (F0 m (pc + 1 + 3) ls rest)) : W p l e R s m args below meth c H locs cells slots Q (F0 m pc ls (.long y :: .long x :: rest)) :=
  W.lcmp hx hb h1 (lv_if_lt hx hb h2 ht (fun c => kt ((lg_lt x y).mp c)) (fun c => kf (fun h => c ((lg_lt x y).mpr h))))
theorem mb_lc_ge (hx : p.tables.exec = Jvm.exec) (hb : c.code = cc) {x y : Int64} {off : Int} {tgt : Nat} (h1 : decode cc pc = .ok (.lcmp, 1)) (h2 : decode cc (pc + 1) = .ok (.ifCond .ge off, 3)) (ht : ((pc + 1 : Nat) : Int) + off = (tgt : Int)) (kt : y ≤ x → W p l e R s m args below meth c H locs cells slots Q (F0 m tgt ls rest)) (kf : ¬ y ≤ x → W p l e R s m args below meth c H locs cells slots Q (F0 m (pc + 1 + 3) ls rest)) : W p l e R s m args below meth c H locs cells slots Q (F0 m pc ls (.long y :: .long x :: rest)) :=
  W.lcmp hx hb h1 (lv_if_ge hx hb h2 ht (fun c => kt ((lg_ge x y).mp c)) (fun c => kf (fun h => c ((lg_ge x y).mpr h))))
theorem mb_lc_gt (hx : p.tables.exec = Jvm.exec) (hb : c.code = cc) {x y : Int64} {off : Int} {tgt : Nat} (h1 : decode cc pc = .ok (.lcmp, 1)) (h2 : decode cc (pc + 1) = .ok (.ifCond .gt off, 3)) (ht : ((pc + 1 : Nat) : Int) + off = (tgt : Int)) (kt : y < x → W p l e R s m args below meth c H locs cells slots Q (F0 m tgt ls rest)) (kf : ¬ y < x → W p l e R s m args below meth c H locs cells slots Q (F0 m (pc + 1 + 3) ls rest)) : W p l e R s m args below meth c H locs cells slots Q (F0 m pc ls (.long y :: .long x :: rest)) :=
  W.lcmp hx hb h1 (lv_if_gt hx hb h2 ht (fun c => kt ((lg_gt x y).mp c)) (fun c => kf (fun h => c ((lg_gt x y).mpr h))))
theorem mb_lc_le (hx : p.tables.exec = Jvm.exec) (hb : c.code = cc) {x y : Int64} {off : Int} {tgt : Nat} (h1 : decode cc pc = .ok (.lcmp, 1)) (h2 : decode cc (pc + 1) = .ok (.ifCond .le off, 3)) (ht : ((pc + 1 : Nat) : Int) + off = (tgt : Int)) (kt : x ≤ y → W p l e R s m args below meth c H locs cells slots Q (F0 m tgt ls rest)) (kf : ¬ x ≤ y → W p l e R s m args below meth c H locs cells slots Q (F0 m (pc + 1 + 3) ls rest)) : W p l e R s m args below meth c H locs cells slots Q (F0 m pc ls (.long y :: .long x :: rest)) :=
  W.lcmp hx hb h1 (lv_if_le hx hb h2 ht (fun c => kt ((lg_le x y).mp c)) (fun c => kf (fun h => c ((lg_le x y).mpr h))))
end MBL
/-! the constants: three tables and the two formats -/
def st_K (j : Nat) : Int32 := ([518, 998, 998, 4094, 4098, 390] : List Int32).getD j 0
def st_L (j : Nat) : Int64 := ([0, 0, -128, -32768, -2147483648, -9223372036854775808, -2147483648, -9223372036854775808] : List Int64).getD j 0
def st_G (j : Nat) : Int64 := ([1, 65535, 127, 32767, 2147483647, 9223372036854775807, 2147483647, 9223372036854775807] : List Int64).getD j 0
abbrev fm_prec (i : Nat) : Int32 := ([24, 53] : List Int32).getD i 0
abbrev fm_low (i : Nat) : Int32 := ([-149, -1074] : List Int32).getD i 0
abbrev fm_inf (i : Nat) : Int64 := ([2139095040, 9218868437227405312] : List Int64).getD i 0
abbrev fm_nan (i : Nat) : Int64 := ([2143289344, 9221120237041090560] : List Int64).getD i 0
abbrev fm_sign (i : Nat) : Int64 := ([-2147483648, -9223372036854775808] : List Int64).getD i 0
abbrev fq_prec : String × String × String × List Int32 := ("ConversionTables$Format", "precision", "I", [24, 53])
abbrev fq_low : String × String × String × List Int32 := ("ConversionTables$Format", "lowestExponent", "I", [-149, -1074])
abbrev fq_all : List (String × String × String × List Int32) := [fq_prec, fq_low]
def mb_G (tK tL tG : Nat) (ad : Nat → Nat) (A : Nat → Prop) (U : State) (H : Heap) : Prop :=
  va_Z "ConversionTables" "ALLOWED_KINDS" "[I" (.ref tK) A U H ∧ va_T .int tK 6 (fun j => .int (st_K j)) A U H ∧
  va_Z "ConversionTables" "LEAST_BITS" "[J" (.ref tL) A U H ∧ va_T .long tL 8 (fun j => .long (st_L j)) A U H ∧
  va_Z "ConversionTables" "GREATEST_BITS" "[J" (.ref tG) A U H ∧ va_T .long tG 8 (fun j => .long (st_G j)) A U H ∧
  va_En "ConversionTables$Format" "LConversionTables$Format;" ["OF_FLOAT", "OF_DOUBLE"] fq_all ad A U H ∧
  va_Ef 2 "ConversionTables$Format" "infinity" "J" (fun i => .long (fm_inf i)) ad A U H ∧ va_Ef 2 "ConversionTables$Format" "nan" "J" (fun i => .long (fm_nan i)) ad A U H ∧ va_Ef 2 "ConversionTables$Format" "sign" "J" (fun i => .long (fm_sign i)) ad A U H
theorem mb_G.moved {tK tL tG : Nat} {ad : Nat → Nat} {A : Nat → Prop} {u U : State} {H : Heap} (hvm : u.vm.Alike U.vm) (h : mb_G tK tL tG ad A u H) : mb_G tK tL tG ad A U H := by
  obtain ⟨h1, h2, h3, h4, h5, h6, h7, h8, h9, h10⟩ := h
  exact ⟨h1.moved hvm, h2.moved hvm, h3.moved hvm, h4.moved hvm, h5.moved hvm, h6.moved hvm, h7.moved hvm, h8.moved hvm, h9.moved hvm, h10.moved hvm⟩
theorem mb_G.kept {tK tL tG : Nat} {ad : Nat → Nat} {A : Nat → Prop} {U : State} {H H1 : Heap} (h : mb_G tK tL tG ad A U H) (hq : ∀ a : Nat, a < H.size → ¬ A a → H1[a]? = H[a]?) : mb_G tK tL tG ad A U H1 := by
  obtain ⟨h1, h2, h3, h4, h5, h6, h7, h8, h9, h10⟩ := h
  exact ⟨h1.kept hq, h2.kept hq, h3.kept hq, h4.kept hq, h5.kept hq, h6.kept hq, h7.kept hq, h8.kept hq, h9.kept hq, h10.kept hq⟩
theorem mb_G.narrow {tK tL tG : Nat} {ad : Nat → Nat} {A B : Nat → Prop} {U : State} {H : Heap} (h : mb_G tK tL tG ad A U H) (hAB : ∀ q, B q → A q) : mb_G tK tL tG ad B U H := by
  obtain ⟨h1, h2, h3, h4, h5, h6, h7, h8, h9, h10⟩ := h
  exact ⟨h1.narrow hAB, h2.narrow hAB, h3.narrow hAB, h4.narrow hAB, h5.narrow hAB, h6.narrow hAB, h7.narrow hAB, h8.narrow hAB, h9.narrow hAB, h10.narrow hAB⟩
/-- what a method that only reads is given: its world, and the constants -/
abbrev mb_no : Nat → Prop := fun _ => False
def mb_R (D : va_G) (tys : List (ClassId × FieldType)) (ws : va_W) (U : State) : Prop := va_P D vwCl ws U.heap ∧ va_K D vwCl tys U
def mb_RG (tK tL tG : Nat) (ad : Nat → Nat) (D : va_G) (tys : List (ClassId × FieldType)) (ws : va_W) (U : State) : Prop := mb_G tK tL tG ad mb_no U U.heap ∧ va_P D vwCl ws U.heap ∧ va_K D vwCl tys U
theorem mb_blindR {av : List Value} {D : va_G} {tys : List (ClassId × FieldType)} {ws : va_W} : FrameBlind (va_Pc av (mb_R D tys ws)) :=
  fun a U g mk q => ⟨q.1, q.2.1, va_K.moved (u := U) (U := U.calling g mk a) (Vm.Alike.refl U.vm) q.2.2⟩
theorem mb_blindG {av : List Value} {tK tL tG : Nat} {ad : Nat → Nat} {D : va_G} {tys : List (ClassId × FieldType)} {ws : va_W} : FrameBlind (va_Pc av (mb_RG tK tL tG ad D tys ws)) :=
  fun a U g mk q => ⟨q.1, mb_G.moved (u := U) (U := U.calling g mk a) (Vm.Alike.refl U.vm) q.2.1, q.2.2.1, va_K.moved (u := U) (U := U.calling g mk a) (Vm.Alike.refl U.vm) q.2.2.2⟩
theorem mb_preT {s : State} {H : Heap} {As : List Value} : PreS s H (va_Pc As (fun _ => True)) As := ⟨fun _ _ _ _ q => q, fun _ _ _ => ⟨rfl, trivial⟩⟩
theorem mb_preS {s : State} {H : Heap} {As : List Value} {D : va_G} {tys : List (ClassId × FieldType)} {ws : va_W} (hK : va_K D vwCl tys s) (hP : va_P D vwCl ws H) : PreS s H (va_Pc As (mb_R D tys ws)) As :=
  ⟨mb_blindR, fun U hU hW => ⟨rfl, by rw [hU]; exact hP, va_K.moved hW.alike hK⟩⟩
theorem mb_preV {s : State} {H : Heap} {As : List Value} {D : va_G} {tys : List (ClassId × FieldType)} {ws : va_W} {b q0 ci : Nat} {q : vw_C} {fs : List Value} (hK : va_K D vwCl tys s) (hP : va_P D vwCl ws H) (hc : vwCl[ci]? = some q) (he : ws[q0]? = some (b, .inr (ci, fs))) : PreV s H q.1 b (va_Pc (.ref b :: As) (mb_R D tys ws)) As :=
  ⟨mb_blindR, va_recv hK hP hc he, fun U hU hW => ⟨rfl, by rw [hU]; exact hP, va_K.moved hW.alike hK⟩⟩
theorem mb_preGS {s : State} {H : Heap} {As : List Value} {tK tL tG : Nat} {ad : Nat → Nat} {D : va_G} {tys : List (ClassId × FieldType)} {ws : va_W} (hG : mb_G tK tL tG ad mb_no s H) (hK : va_K D vwCl tys s) (hP : va_P D vwCl ws H) : PreS s H (va_Pc As (mb_RG tK tL tG ad D tys ws)) As :=
  ⟨mb_blindG, fun U hU hW => ⟨rfl, by rw [hU]; exact hG.moved hW.alike, by rw [hU]; exact hP, va_K.moved hW.alike hK⟩⟩
theorem mb_preGV {s : State} {H : Heap} {As : List Value} {tK tL tG : Nat} {ad : Nat → Nat} {D : va_G} {tys : List (ClassId × FieldType)} {ws : va_W} {b q0 ci : Nat} {q : vw_C} {fs : List Value} (hG : mb_G tK tL tG ad mb_no s H) (hK : va_K D vwCl tys s) (hP : va_P D vwCl ws H) (hc : vwCl[ci]? = some q) (he : ws[q0]? = some (b, .inr (ci, fs))) : PreV s H q.1 b (va_Pc (.ref b :: As) (mb_RG tK tL tG ad D tys ws)) As :=
  ⟨mb_blindG, va_recv hK hP hc he, fun U hU hW => ⟨rfl, by rw [hU]; exact hG.moved hW.alike, by rw [hU]; exact hP, va_K.moved hW.alike hK⟩⟩
theorem mb_preGE {s : State} {H : Heap} {As : List Value} {tK tL tG : Nat} {ad : Nat → Nat} {D : va_G} {tys : List (ClassId × FieldType)} {ws : va_W} {i : Nat} (hG : mb_G tK tL tG ad mb_no s H) (hK : va_K D vwCl tys s) (hP : va_P D vwCl ws H) (hi : i < 2) : PreV s H "ConversionTables$Format" (ad i) (va_Pc (.ref (ad i) :: As) (mb_RG tK tL tG ad D tys ws)) As :=
  ⟨mb_blindG, by
    obtain ⟨cell, h1, h2, h3, -⟩ := (hG.2.2.2.2.2.2.1.1 i hi).2.1
    exact ⟨cell, h1, h2, h3⟩, fun U hU hW => ⟨rfl, by rw [hU]; exact hG.moved hW.alike, by rw [hU]; exact hP, va_K.moved hW.alike hK⟩⟩
end

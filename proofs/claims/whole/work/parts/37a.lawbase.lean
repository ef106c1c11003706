set_option maxRecDepth 20000 in
theorem goodIn_cc {big b : List Cond} {c : Cond} (ha : GoodIn big [c]) (hb : GoodIn big b) : GoodIn big (c :: b) := fun w h => (List.mem_cons.mp h).elim (fun e => ha w (List.mem_cons.mpr (Or.inl e))) (hb w)
set_option maxRecDepth 20000 in
theorem gk_X10 : GoodIn lw_tbl wsX10 := goodIn_of _ (by decide +kernel)
set_option maxRecDepth 20000 in
theorem gk_X20 : GoodIn lw_tbl wsX20 := goodIn_of _ (by decide +kernel)
set_option maxRecDepth 20000 in
theorem gk_X30 : GoodIn lw_tbl wsX30 := goodIn_of _ (by decide +kernel)
set_option maxRecDepth 20000 in
theorem gk_atN : GoodIn lw_tbl ((vx_atN 8).filter goodWord) := goodIn_of _ (by decide +kernel)
set_option maxRecDepth 20000 in
theorem gk_J5 : GoodIn lw_tbl wsJx5d7770 := goodIn_of _ (by decide +kernel)
set_option maxRecDepth 20000 in
theorem gk_J3 : GoodIn lw_tbl wsJx3273f0 := goodIn_of _ (by decide +kernel)
set_option maxRecDepth 20000 in
theorem gk_extra : GoodIn lw_tbl xt_extra := goodIn_of _ (by decide +kernel)

set_option maxRecDepth 20000 in
theorem mw_469 : (Cond.methodLink R_Law 59 y_LB_clear) ∈ AW := inAW (List.mem_append_right _ (show _ ∈ tables_1_1 ++ (tables_1_2 ++ (tables_1_3 ++ tables_1_4)) from (List.mem_append_left _ (List.mem_of_getElem? (i := 210) rfl)))) rfl
set_option maxRecDepth 20000 in
theorem mw_470 : (Cond.instanceMethod y_LB_clear) ∈ AW := inAW (List.mem_append_right _ (show _ ∈ tables_1_1 ++ (tables_1_2 ++ (tables_1_3 ++ tables_1_4)) from (List.mem_append_left _ (List.mem_of_getElem? (i := 211) rfl)))) rfl
set_option maxRecDepth 20000 in
theorem mw_471 : (Cond.selects R_LB y_LB_clear y_LB_clear) ∈ AW := inAW (List.mem_append_right _ (show _ ∈ tables_1_1 ++ (tables_1_2 ++ (tables_1_3 ++ tables_1_4)) from (List.mem_append_left _ (List.mem_of_getElem? (i := 212) rfl)))) rfl
set_option maxRecDepth 20000 in
theorem mw_472 : (Cond.code y_LB_clear b_LB_clear 1 none) ∈ AW := inAW (List.mem_append_right _ (show _ ∈ tables_1_1 ++ (tables_1_2 ++ (tables_1_3 ++ tables_1_4)) from (List.mem_append_left _ (List.mem_of_getElem? (i := 213) rfl)))) rfl
set_option maxRecDepth 20000 in
theorem mw_473 : (Cond.methodLink R_Law 62 y_Mdl_clear) ∈ AW := inAW (List.mem_append_right _ (show _ ∈ tables_1_1 ++ (tables_1_2 ++ (tables_1_3 ++ tables_1_4)) from (List.mem_append_right _ (List.mem_append_right _ (List.mem_append_right _ (List.mem_of_getElem? (i := 7) rfl)))))) rfl
set_option maxRecDepth 20000 in
theorem mw_474 : (Cond.instanceMethod y_Mdl_clear) ∈ AW := inAW (List.mem_append_right _ (show _ ∈ tables_1_1 ++ (tables_1_2 ++ (tables_1_3 ++ tables_1_4)) from (List.mem_append_right _ (List.mem_append_right _ (List.mem_append_right _ (List.mem_of_getElem? (i := 8) rfl)))))) rfl
set_option maxRecDepth 20000 in
theorem mw_475 : (Cond.selects R_Mdl y_Mdl_clear y_Mdl_clear) ∈ AW := inAW (List.mem_append_right _ (show _ ∈ tables_1_1 ++ (tables_1_2 ++ (tables_1_3 ++ tables_1_4)) from (List.mem_append_right _ (List.mem_append_right _ (List.mem_append_right _ (List.mem_of_getElem? (i := 9) rfl)))))) rfl
set_option maxRecDepth 20000 in
theorem mw_476 : (Cond.code y_Mdl_clear b_Mdl_clear 1 none) ∈ AW := inAW (List.mem_append_right _ (show _ ∈ tables_1_1 ++ (tables_1_2 ++ (tables_1_3 ++ tables_1_4)) from (List.mem_append_right _ (List.mem_append_right _ (List.mem_append_right _ (List.mem_of_getElem? (i := 10) rfl)))))) rfl
set_option maxRecDepth 20000 in
theorem mw_477 : (Cond.methodLink R_Law 63 y_Law_put) ∈ AW := inAW (List.mem_append_right _ (show _ ∈ tables_1_1 ++ (tables_1_2 ++ (tables_1_3 ++ tables_1_4)) from (List.mem_append_left _ (List.mem_of_getElem? (i := 226) rfl)))) rfl
set_option maxRecDepth 20000 in
theorem mw_478 : (Cond.static y_Law_put) ∈ AW := inAW (List.mem_append_right _ (show _ ∈ tables_1_1 ++ (tables_1_2 ++ (tables_1_3 ++ tables_1_4)) from (List.mem_append_left _ (List.mem_of_getElem? (i := 227) rfl)))) rfl
set_option maxRecDepth 20000 in
theorem mw_479 : (Cond.initialized R_Law) ∈ AW := inAW (List.mem_append_right _ (show _ ∈ tables_1_1 ++ (tables_1_2 ++ (tables_1_3 ++ tables_1_4)) from (List.mem_append_left _ (List.mem_of_getElem? (i := 0) rfl)))) rfl
set_option maxRecDepth 20000 in
theorem mw_480 : (Cond.codeWith y_Law_put b_Law_put 4 (some .int) [(0, 9, 12, 13), (0, 9, 15, 15), (0, 9, 18, 17)]) ∈ AW := inAW (List.mem_append_right _ (show _ ∈ tables_1_1 ++ (tables_1_2 ++ (tables_1_3 ++ tables_1_4)) from (List.mem_append_left _ (List.mem_of_getElem? (i := 228) rfl)))) rfl
set_option maxRecDepth 20000 in
theorem mw_481 : (Cond.methodLink R_Law 68 y_Mdl_put) ∈ AW := inAW (List.mem_append_right _ (show _ ∈ tables_1_1 ++ (tables_1_2 ++ (tables_1_3 ++ tables_1_4)) from (List.mem_append_right _ (List.mem_append_right _ (List.mem_append_right _ (List.mem_of_getElem? (i := 11) rfl)))))) rfl
set_option maxRecDepth 20000 in
theorem mw_482 : (Cond.instanceMethod y_Mdl_put) ∈ AW := inAW (List.mem_append_right _ (show _ ∈ tables_1_1 ++ (tables_1_2 ++ (tables_1_3 ++ tables_1_4)) from (List.mem_append_right _ (List.mem_append_right _ (List.mem_append_right _ (List.mem_of_getElem? (i := 12) rfl)))))) rfl
set_option maxRecDepth 20000 in
theorem mw_483 : (Cond.selects R_Mdl y_Mdl_put y_Mdl_put) ∈ AW := inAW (List.mem_append_right _ (show _ ∈ tables_1_1 ++ (tables_1_2 ++ (tables_1_3 ++ tables_1_4)) from (List.mem_append_right _ (List.mem_append_right _ (List.mem_append_right _ (List.mem_of_getElem? (i := 13) rfl)))))) rfl
set_option maxRecDepth 20000 in
theorem mw_484 : (Cond.code y_Mdl_put b_Mdl_put 2 (some .int)) ∈ AW := inAW (List.mem_append_right _ (show _ ∈ tables_1_1 ++ (tables_1_2 ++ (tables_1_3 ++ tables_1_4)) from (List.mem_append_right _ (List.mem_append_right _ (List.mem_append_right _ (List.mem_of_getElem? (i := 14) rfl)))))) rfl
set_option maxRecDepth 20000 in
theorem mw_485 : (Cond.methodLink R_Law 69 y_Mdl_thrown) ∈ AW := inAW (List.mem_append_right _ (show _ ∈ tables_1_1 ++ (tables_1_2 ++ (tables_1_3 ++ tables_1_4)) from (List.mem_append_right _ (List.mem_append_right _ (List.mem_append_right _ (List.mem_of_getElem? (i := 3) rfl)))))) rfl
set_option maxRecDepth 20000 in
theorem mw_486 : (Cond.instanceMethod y_Mdl_thrown) ∈ AW := inAW (List.mem_append_right _ (show _ ∈ tables_1_1 ++ (tables_1_2 ++ (tables_1_3 ++ tables_1_4)) from (List.mem_append_right _ (List.mem_append_right _ (List.mem_append_right _ (List.mem_of_getElem? (i := 4) rfl)))))) rfl
set_option maxRecDepth 20000 in
theorem mw_487 : (Cond.selects R_Mdl y_Mdl_thrown y_Mdl_thrown) ∈ AW := inAW (List.mem_append_right _ (show _ ∈ tables_1_1 ++ (tables_1_2 ++ (tables_1_3 ++ tables_1_4)) from (List.mem_append_right _ (List.mem_append_right _ (List.mem_append_right _ (List.mem_of_getElem? (i := 5) rfl)))))) rfl
set_option maxRecDepth 20000 in
theorem mw_488 : (Cond.code y_Mdl_thrown b_Mdl_thrown 1 (some .int)) ∈ AW := inAW (List.mem_append_right _ (show _ ∈ tables_1_1 ++ (tables_1_2 ++ (tables_1_3 ++ tables_1_4)) from (List.mem_append_right _ (List.mem_append_right _ (List.mem_append_right _ (List.mem_of_getElem? (i := 6) rfl)))))) rfl
set_option maxRecDepth 20000 in
theorem mw_489 : (Cond.methodLink R_Law 72 y_Law_at) ∈ AW := inAW (List.mem_append_right _ (show _ ∈ tables_1_1 ++ (tables_1_2 ++ (tables_1_3 ++ tables_1_4)) from (List.mem_append_right _ (List.mem_append_left _ (List.mem_of_getElem? (i := 124) rfl))))) rfl
set_option maxRecDepth 20000 in
theorem mw_490 : (Cond.static y_Law_at) ∈ AW := inAW (List.mem_append_right _ (show _ ∈ tables_1_1 ++ (tables_1_2 ++ (tables_1_3 ++ tables_1_4)) from (List.mem_append_right _ (List.mem_append_left _ (List.mem_of_getElem? (i := 125) rfl))))) rfl
set_option maxRecDepth 20000 in
theorem mw_491 : (Cond.codeWith y_Law_at b_Law_at 4 (some .int) [(0, 9, 12, 22)]) ∈ AW := inAW (List.mem_append_right _ (show _ ∈ tables_1_1 ++ (tables_1_2 ++ (tables_1_3 ++ tables_1_4)) from (List.mem_append_right _ (List.mem_append_left _ (List.mem_of_getElem? (i := 126) rfl))))) rfl
set_option maxRecDepth 20000 in
theorem mw_492 : (Cond.methodLink R_Law 74 y_Mdl_at) ∈ AW := inAW (List.mem_append_right _ (show _ ∈ tables_1_1 ++ (tables_1_2 ++ (tables_1_3 ++ tables_1_4)) from (List.mem_append_right _ (List.mem_append_right _ (List.mem_append_right _ (List.mem_of_getElem? (i := 22) rfl)))))) rfl
set_option maxRecDepth 20000 in
theorem mw_493 : (Cond.instanceMethod y_Mdl_at) ∈ AW := inAW (List.mem_append_right _ (show _ ∈ tables_1_1 ++ (tables_1_2 ++ (tables_1_3 ++ tables_1_4)) from (List.mem_append_right _ (List.mem_append_right _ (List.mem_append_right _ (List.mem_of_getElem? (i := 23) rfl)))))) rfl
set_option maxRecDepth 20000 in
theorem mw_494 : (Cond.selects R_Mdl y_Mdl_at y_Mdl_at) ∈ AW := inAW (List.mem_append_right _ (show _ ∈ tables_1_1 ++ (tables_1_2 ++ (tables_1_3 ++ tables_1_4)) from (List.mem_append_right _ (List.mem_append_right _ (List.mem_append_right _ (List.mem_of_getElem? (i := 24) rfl)))))) rfl
set_option maxRecDepth 20000 in
theorem mw_495 : (Cond.code y_Mdl_at b_Mdl_at 2 (some .int)) ∈ AW := inAW (List.mem_append_right _ (show _ ∈ tables_1_1 ++ (tables_1_2 ++ (tables_1_3 ++ tables_1_4)) from (List.mem_append_right _ (List.mem_append_right _ (List.mem_append_right _ (List.mem_of_getElem? (i := 25) rfl)))))) rfl
set_option maxRecDepth 20000 in
theorem mw_496 : (Cond.methodLink R_Law 75 y_Law_context) ∈ AW := inAW (List.mem_append_right _ (show _ ∈ tables_1_1 ++ (tables_1_2 ++ (tables_1_3 ++ tables_1_4)) from (List.mem_append_right _ (List.mem_append_left _ (List.mem_of_getElem? (i := 152) rfl))))) rfl
set_option maxRecDepth 20000 in
theorem mw_497 : (Cond.static y_Law_context) ∈ AW := inAW (List.mem_append_right _ (show _ ∈ tables_1_1 ++ (tables_1_2 ++ (tables_1_3 ++ tables_1_4)) from (List.mem_append_right _ (List.mem_append_left _ (List.mem_of_getElem? (i := 153) rfl))))) rfl
set_option maxRecDepth 20000 in
theorem mw_498 : (Cond.codeWith y_Law_context b_Law_context 6 (some .int) [(0, 9, 12, 13)]) ∈ AW := inAW (List.mem_append_right _ (show _ ∈ tables_1_1 ++ (tables_1_2 ++ (tables_1_3 ++ tables_1_4)) from (List.mem_append_right _ (List.mem_append_left _ (List.mem_of_getElem? (i := 154) rfl))))) rfl
set_option maxRecDepth 20000 in
theorem mw_499 : (Cond.methodLink R_Law 78 y_Mdl_context) ∈ AW := inAW (List.mem_append_right _ (show _ ∈ tables_1_1 ++ (tables_1_2 ++ (tables_1_3 ++ tables_1_4)) from (List.mem_append_right _ (List.mem_append_right _ (List.mem_append_right _ (List.mem_of_getElem? (i := 26) rfl)))))) rfl
set_option maxRecDepth 20000 in
theorem mw_500 : (Cond.instanceMethod y_Mdl_context) ∈ AW := inAW (List.mem_append_right _ (show _ ∈ tables_1_1 ++ (tables_1_2 ++ (tables_1_3 ++ tables_1_4)) from (List.mem_append_right _ (List.mem_append_right _ (List.mem_append_right _ (List.mem_of_getElem? (i := 27) rfl)))))) rfl
set_option maxRecDepth 20000 in
theorem mw_501 : (Cond.selects R_Mdl y_Mdl_context y_Mdl_context) ∈ AW := inAW (List.mem_append_right _ (show _ ∈ tables_1_1 ++ (tables_1_2 ++ (tables_1_3 ++ tables_1_4)) from (List.mem_append_right _ (List.mem_append_right _ (List.mem_append_right _ (List.mem_of_getElem? (i := 28) rfl)))))) rfl
set_option maxRecDepth 20000 in
theorem mw_502 : (Cond.code y_Mdl_context b_Mdl_context 6 none) ∈ AW := inAW (List.mem_append_right _ (show _ ∈ tables_1_1 ++ (tables_1_2 ++ (tables_1_3 ++ tables_1_4)) from (List.mem_append_right _ (List.mem_append_right _ (List.mem_append_right _ (List.mem_of_getElem? (i := 29) rfl)))))) rfl
set_option maxRecDepth 20000 in
theorem mw_503 : (Cond.methodLink R_Law 79 y_Law_state) ∈ AW := inAW (List.mem_append_right _ (show _ ∈ tables_1_1 ++ (tables_1_2 ++ (tables_1_3 ++ tables_1_4)) from (List.mem_append_right _ (List.mem_append_left _ (List.mem_of_getElem? (i := 173) rfl))))) rfl
set_option maxRecDepth 20000 in
theorem mw_504 : (Cond.static y_Law_state) ∈ AW := inAW (List.mem_append_right _ (show _ ∈ tables_1_1 ++ (tables_1_2 ++ (tables_1_3 ++ tables_1_4)) from (List.mem_append_right _ (List.mem_append_left _ (List.mem_of_getElem? (i := 174) rfl))))) rfl
set_option maxRecDepth 20000 in
theorem mw_505 : (Cond.codeWith y_Law_state b_Law_state 5 (some .int) [(0, 10, 13, 13)]) ∈ AW := inAW (List.mem_append_right _ (show _ ∈ tables_1_1 ++ (tables_1_2 ++ (tables_1_3 ++ tables_1_4)) from (List.mem_append_right _ (List.mem_append_left _ (List.mem_of_getElem? (i := 175) rfl))))) rfl
set_option maxRecDepth 20000 in
theorem mw_506 : (Cond.methodLink R_Law 82 y_Mdl_state) ∈ AW := inAW (List.mem_append_right _ (show _ ∈ tables_1_1 ++ (tables_1_2 ++ (tables_1_3 ++ tables_1_4)) from (List.mem_append_right _ (List.mem_append_right _ (List.mem_append_right _ (List.mem_of_getElem? (i := 30) rfl)))))) rfl
set_option maxRecDepth 20000 in
theorem mw_507 : (Cond.instanceMethod y_Mdl_state) ∈ AW := inAW (List.mem_append_right _ (show _ ∈ tables_1_1 ++ (tables_1_2 ++ (tables_1_3 ++ tables_1_4)) from (List.mem_append_right _ (List.mem_append_right _ (List.mem_append_right _ (List.mem_of_getElem? (i := 31) rfl)))))) rfl
set_option maxRecDepth 20000 in
theorem mw_508 : (Cond.selects R_Mdl y_Mdl_state y_Mdl_state) ∈ AW := inAW (List.mem_append_right _ (show _ ∈ tables_1_1 ++ (tables_1_2 ++ (tables_1_3 ++ tables_1_4)) from (List.mem_append_right _ (List.mem_append_right _ (List.mem_append_right _ (List.mem_of_getElem? (i := 32) rfl)))))) rfl
set_option maxRecDepth 20000 in
theorem mw_509 : (Cond.code y_Mdl_state b_Mdl_state 4 (some .int)) ∈ AW := inAW (List.mem_append_right _ (show _ ∈ tables_1_1 ++ (tables_1_2 ++ (tables_1_3 ++ tables_1_4)) from (List.mem_append_right _ (List.mem_append_right _ (List.mem_append_right _ (List.mem_of_getElem? (i := 33) rfl)))))) rfl
set_option maxRecDepth 20000 in
theorem mw_510 : (Cond.methodLink R_Law 83 y_Law_open) ∈ AW := inAW (List.mem_append_right _ (show _ ∈ tables_1_1 ++ (tables_1_2 ++ (tables_1_3 ++ tables_1_4)) from (List.mem_append_right _ (List.mem_append_left _ (List.mem_of_getElem? (i := 191) rfl))))) rfl
set_option maxRecDepth 20000 in
theorem mw_511 : (Cond.static y_Law_open) ∈ AW := inAW (List.mem_append_right _ (show _ ∈ tables_1_1 ++ (tables_1_2 ++ (tables_1_3 ++ tables_1_4)) from (List.mem_append_right _ (List.mem_append_left _ (List.mem_of_getElem? (i := 192) rfl))))) rfl
set_option maxRecDepth 20000 in
theorem mw_512 : (Cond.codeWith y_Law_open b_Law_open 3 (some .int) [(0, 5, 8, 15)]) ∈ AW := inAW (List.mem_append_right _ (show _ ∈ tables_1_1 ++ (tables_1_2 ++ (tables_1_3 ++ tables_1_4)) from (List.mem_append_right _ (List.mem_append_left _ (List.mem_of_getElem? (i := 193) rfl))))) rfl
set_option maxRecDepth 20000 in
theorem mw_513 : (Cond.methodLink R_Law 86 y_Mdl_open) ∈ AW := inAW (List.mem_append_right _ (show _ ∈ tables_1_1 ++ (tables_1_2 ++ (tables_1_3 ++ tables_1_4)) from (List.mem_append_right _ (List.mem_append_right _ (List.mem_append_right _ (List.mem_of_getElem? (i := 34) rfl)))))) rfl
set_option maxRecDepth 20000 in
theorem mw_514 : (Cond.instanceMethod y_Mdl_open) ∈ AW := inAW (List.mem_append_right _ (show _ ∈ tables_1_1 ++ (tables_1_2 ++ (tables_1_3 ++ tables_1_4)) from (List.mem_append_right _ (List.mem_append_right _ (List.mem_append_right _ (List.mem_of_getElem? (i := 35) rfl)))))) rfl
set_option maxRecDepth 20000 in
theorem mw_515 : (Cond.selects R_Mdl y_Mdl_open y_Mdl_open) ∈ AW := inAW (List.mem_append_right _ (show _ ∈ tables_1_1 ++ (tables_1_2 ++ (tables_1_3 ++ tables_1_4)) from (List.mem_append_right _ (List.mem_append_right _ (List.mem_append_right _ (List.mem_of_getElem? (i := 36) rfl)))))) rfl
set_option maxRecDepth 20000 in
theorem mw_516 : (Cond.code y_Mdl_open b_Mdl_open 2 none) ∈ AW := inAW (List.mem_append_right _ (show _ ∈ tables_1_1 ++ (tables_1_2 ++ (tables_1_3 ++ tables_1_4)) from (List.mem_append_right _ (List.mem_append_right _ (List.mem_append_right _ (List.mem_of_getElem? (i := 37) rfl)))))) rfl
set_option maxRecDepth 20000 in
theorem mw_517 : (Cond.constantLong R_Law 87 4294967295) ∈ AW := inAW (List.mem_append_right _ (show _ ∈ tables_1_1 ++ (tables_1_2 ++ (tables_1_3 ++ tables_1_4)) from (List.mem_append_right _ (List.mem_append_right _ (List.mem_append_right _ (List.mem_of_getElem? (i := 131) rfl)))))) rfl
set_option maxRecDepth 20000 in
theorem mw_518 : (Cond.methodLink R_Law 89 y_Law_write) ∈ AW := inAW (List.mem_append_right _ (show _ ∈ tables_1_1 ++ (tables_1_2 ++ (tables_1_3 ++ tables_1_4)) from (List.mem_append_right _ (List.mem_append_left _ (List.mem_of_getElem? (i := 212) rfl))))) rfl
set_option maxRecDepth 20000 in
theorem mw_519 : (Cond.static y_Law_write) ∈ AW := inAW (List.mem_append_right _ (show _ ∈ tables_1_1 ++ (tables_1_2 ++ (tables_1_3 ++ tables_1_4)) from (List.mem_append_right _ (List.mem_append_left _ (List.mem_of_getElem? (i := 213) rfl))))) rfl
set_option maxRecDepth 20000 in
theorem mw_520 : (Cond.codeWith y_Law_write b_Law_write 7 (some .int) [(0, 13, 16, 15), (0, 13, 20, 13), (0, 13, 24, 17)]) ∈ AW := inAW (List.mem_append_right _ (show _ ∈ tables_1_1 ++ (tables_1_2 ++ (tables_1_3 ++ tables_1_4)) from (List.mem_append_right _ (List.mem_append_left _ (List.mem_of_getElem? (i := 214) rfl))))) rfl
set_option maxRecDepth 20000 in
theorem mw_521 : (Cond.methodLink R_Law 92 y_Mdl_write) ∈ AW := inAW (List.mem_append_right _ (show _ ∈ tables_1_1 ++ (tables_1_2 ++ (tables_1_3 ++ tables_1_4)) from (List.mem_append_right _ (List.mem_append_right _ (List.mem_append_right _ (List.mem_of_getElem? (i := 39) rfl)))))) rfl
set_option maxRecDepth 20000 in
theorem mw_522 : (Cond.instanceMethod y_Mdl_write) ∈ AW := inAW (List.mem_append_right _ (show _ ∈ tables_1_1 ++ (tables_1_2 ++ (tables_1_3 ++ tables_1_4)) from (List.mem_append_right _ (List.mem_append_right _ (List.mem_append_right _ (List.mem_of_getElem? (i := 40) rfl)))))) rfl
set_option maxRecDepth 20000 in
theorem mw_523 : (Cond.selects R_Mdl y_Mdl_write y_Mdl_write) ∈ AW := inAW (List.mem_append_right _ (show _ ∈ tables_1_1 ++ (tables_1_2 ++ (tables_1_3 ++ tables_1_4)) from (List.mem_append_right _ (List.mem_append_right _ (List.mem_append_right _ (List.mem_of_getElem? (i := 41) rfl)))))) rfl
set_option maxRecDepth 20000 in
theorem mw_524 : (Cond.code y_Mdl_write b_Mdl_write 8 (some .int)) ∈ AW := inAW (List.mem_append_right _ (show _ ∈ tables_1_1 ++ (tables_1_2 ++ (tables_1_3 ++ tables_1_4)) from (List.mem_append_right _ (List.mem_append_right _ (List.mem_append_right _ (List.mem_of_getElem? (i := 42) rfl)))))) rfl
set_option maxRecDepth 20000 in
theorem mw_525 : (Cond.methodLink R_Law 93 y_Law_enough) ∈ AW := inAW (List.mem_append_right _ (show _ ∈ tables_1_1 ++ (tables_1_2 ++ (tables_1_3 ++ tables_1_4)) from (List.mem_append_right _ (List.mem_append_right _ (List.mem_append_left _ (List.mem_of_getElem? (i := 63) rfl)))))) rfl
set_option maxRecDepth 20000 in
theorem mw_526 : (Cond.static y_Law_enough) ∈ AW := inAW (List.mem_append_right _ (show _ ∈ tables_1_1 ++ (tables_1_2 ++ (tables_1_3 ++ tables_1_4)) from (List.mem_append_right _ (List.mem_append_right _ (List.mem_append_left _ (List.mem_of_getElem? (i := 64) rfl)))))) rfl
set_option maxRecDepth 20000 in
theorem mw_527 : (Cond.codeWith y_Law_enough b_Law_enough 3 (some .int) [(0, 8, 11, 15)]) ∈ AW := inAW (List.mem_append_right _ (show _ ∈ tables_1_1 ++ (tables_1_2 ++ (tables_1_3 ++ tables_1_4)) from (List.mem_append_right _ (List.mem_append_right _ (List.mem_append_left _ (List.mem_of_getElem? (i := 65) rfl)))))) rfl
set_option maxRecDepth 20000 in
theorem mw_528 : (Cond.methodLink R_Law 96 y_Mdl_enough) ∈ AW := inAW (List.mem_append_right _ (show _ ∈ tables_1_1 ++ (tables_1_2 ++ (tables_1_3 ++ tables_1_4)) from (List.mem_append_right _ (List.mem_append_right _ (List.mem_append_right _ (List.mem_of_getElem? (i := 82) rfl)))))) rfl
set_option maxRecDepth 20000 in
theorem mw_529 : (Cond.instanceMethod y_Mdl_enough) ∈ AW := inAW (List.mem_append_right _ (show _ ∈ tables_1_1 ++ (tables_1_2 ++ (tables_1_3 ++ tables_1_4)) from (List.mem_append_right _ (List.mem_append_right _ (List.mem_append_right _ (List.mem_of_getElem? (i := 83) rfl)))))) rfl
set_option maxRecDepth 20000 in
theorem mw_530 : (Cond.selects R_Mdl y_Mdl_enough y_Mdl_enough) ∈ AW := inAW (List.mem_append_right _ (show _ ∈ tables_1_1 ++ (tables_1_2 ++ (tables_1_3 ++ tables_1_4)) from (List.mem_append_right _ (List.mem_append_right _ (List.mem_append_right _ (List.mem_of_getElem? (i := 84) rfl)))))) rfl
set_option maxRecDepth 20000 in
theorem mw_531 : (Cond.code y_Mdl_enough b_Mdl_enough 1 (some .int)) ∈ AW := inAW (List.mem_append_right _ (show _ ∈ tables_1_1 ++ (tables_1_2 ++ (tables_1_3 ++ tables_1_4)) from (List.mem_append_right _ (List.mem_append_right _ (List.mem_append_right _ (List.mem_of_getElem? (i := 85) rfl)))))) rfl
set_option maxRecDepth 20000 in
theorem mw_532 : (Cond.methodLink R_Law 97 y_Law_close) ∈ AW := inAW (List.mem_append_right _ (show _ ∈ tables_1_1 ++ (tables_1_2 ++ (tables_1_3 ++ tables_1_4)) from (List.mem_append_right _ (List.mem_append_right _ (List.mem_append_left _ (List.mem_of_getElem? (i := 70) rfl)))))) rfl
set_option maxRecDepth 20000 in
theorem mw_533 : (Cond.static y_Law_close) ∈ AW := inAW (List.mem_append_right _ (show _ ∈ tables_1_1 ++ (tables_1_2 ++ (tables_1_3 ++ tables_1_4)) from (List.mem_append_right _ (List.mem_append_right _ (List.mem_append_left _ (List.mem_of_getElem? (i := 71) rfl)))))) rfl
set_option maxRecDepth 20000 in
theorem mw_534 : (Cond.codeWith y_Law_close b_Law_close 4 (some .int) [(0, 9, 12, 15), (0, 9, 15, 13)]) ∈ AW := inAW (List.mem_append_right _ (show _ ∈ tables_1_1 ++ (tables_1_2 ++ (tables_1_3 ++ tables_1_4)) from (List.mem_append_right _ (List.mem_append_right _ (List.mem_append_left _ (List.mem_of_getElem? (i := 72) rfl)))))) rfl
set_option maxRecDepth 20000 in
theorem mw_535 : (Cond.methodLink R_Law 99 y_Mdl_close) ∈ AW := inAW (List.mem_append_right _ (show _ ∈ tables_1_1 ++ (tables_1_2 ++ (tables_1_3 ++ tables_1_4)) from (List.mem_append_right _ (List.mem_append_right _ (List.mem_append_right _ (List.mem_of_getElem? (i := 86) rfl)))))) rfl
set_option maxRecDepth 20000 in
theorem mw_536 : (Cond.instanceMethod y_Mdl_close) ∈ AW := inAW (List.mem_append_right _ (show _ ∈ tables_1_1 ++ (tables_1_2 ++ (tables_1_3 ++ tables_1_4)) from (List.mem_append_right _ (List.mem_append_right _ (List.mem_append_right _ (List.mem_of_getElem? (i := 87) rfl)))))) rfl
set_option maxRecDepth 20000 in
theorem mw_537 : (Cond.selects R_Mdl y_Mdl_close y_Mdl_close) ∈ AW := inAW (List.mem_append_right _ (show _ ∈ tables_1_1 ++ (tables_1_2 ++ (tables_1_3 ++ tables_1_4)) from (List.mem_append_right _ (List.mem_append_right _ (List.mem_append_right _ (List.mem_of_getElem? (i := 88) rfl)))))) rfl
set_option maxRecDepth 20000 in
theorem mw_538 : (Cond.code y_Mdl_close b_Mdl_close 4 (some .int)) ∈ AW := inAW (List.mem_append_right _ (show _ ∈ tables_1_1 ++ (tables_1_2 ++ (tables_1_3 ++ tables_1_4)) from (List.mem_append_right _ (List.mem_append_right _ (List.mem_append_right _ (List.mem_of_getElem? (i := 89) rfl)))))) rfl
set_option maxRecDepth 20000 in
theorem mw_539 : (Cond.methodLink R_Law 100 y_Law_read) ∈ AW := inAW (List.mem_append_right _ (show _ ∈ tables_1_1 ++ (tables_1_2 ++ (tables_1_3 ++ tables_1_4)) from (List.mem_append_right _ (List.mem_append_right _ (List.mem_append_left _ (List.mem_of_getElem? (i := 105) rfl)))))) rfl
set_option maxRecDepth 20000 in
theorem mw_540 : (Cond.static y_Law_read) ∈ AW := inAW (List.mem_append_right _ (show _ ∈ tables_1_1 ++ (tables_1_2 ++ (tables_1_3 ++ tables_1_4)) from (List.mem_append_right _ (List.mem_append_right _ (List.mem_append_left _ (List.mem_of_getElem? (i := 106) rfl)))))) rfl
set_option maxRecDepth 20000 in
theorem mw_541 : (Cond.codeWith y_Law_read b_Law_read 5 (some .int) [(0, 7, 10, 15), (0, 7, 14, 13)]) ∈ AW := inAW (List.mem_append_right _ (show _ ∈ tables_1_1 ++ (tables_1_2 ++ (tables_1_3 ++ tables_1_4)) from (List.mem_append_right _ (List.mem_append_right _ (List.mem_append_left _ (List.mem_of_getElem? (i := 107) rfl)))))) rfl
set_option maxRecDepth 20000 in
theorem mw_542 : (Cond.methodLink R_Law 103 y_Mdl_read) ∈ AW := inAW (List.mem_append_right _ (show _ ∈ tables_1_1 ++ (tables_1_2 ++ (tables_1_3 ++ tables_1_4)) from (List.mem_append_right _ (List.mem_append_right _ (List.mem_append_right _ (List.mem_of_getElem? (i := 95) rfl)))))) rfl
set_option maxRecDepth 20000 in
theorem mw_543 : (Cond.instanceMethod y_Mdl_read) ∈ AW := inAW (List.mem_append_right _ (show _ ∈ tables_1_1 ++ (tables_1_2 ++ (tables_1_3 ++ tables_1_4)) from (List.mem_append_right _ (List.mem_append_right _ (List.mem_append_right _ (List.mem_of_getElem? (i := 96) rfl)))))) rfl
set_option maxRecDepth 20000 in
theorem mw_544 : (Cond.selects R_Mdl y_Mdl_read y_Mdl_read) ∈ AW := inAW (List.mem_append_right _ (show _ ∈ tables_1_1 ++ (tables_1_2 ++ (tables_1_3 ++ tables_1_4)) from (List.mem_append_right _ (List.mem_append_right _ (List.mem_append_right _ (List.mem_of_getElem? (i := 97) rfl)))))) rfl
set_option maxRecDepth 20000 in
theorem mw_545 : (Cond.code y_Mdl_read b_Mdl_read 7 none) ∈ AW := inAW (List.mem_append_right _ (show _ ∈ tables_1_1 ++ (tables_1_2 ++ (tables_1_3 ++ tables_1_4)) from (List.mem_append_right _ (List.mem_append_right _ (List.mem_append_right _ (List.mem_of_getElem? (i := 98) rfl)))))) rfl
set_option maxRecDepth 20000 in
theorem mw_546 : (Cond.methodLink R_Law 104 y_Law_bits) ∈ AW := inAW (List.mem_append_right _ (show _ ∈ tables_1_1 ++ (tables_1_2 ++ (tables_1_3 ++ tables_1_4)) from (List.mem_append_right _ (List.mem_append_right _ (List.mem_append_left _ (List.mem_of_getElem? (i := 141) rfl)))))) rfl
set_option maxRecDepth 20000 in
theorem mw_547 : (Cond.static y_Law_bits) ∈ AW := inAW (List.mem_append_right _ (show _ ∈ tables_1_1 ++ (tables_1_2 ++ (tables_1_3 ++ tables_1_4)) from (List.mem_append_right _ (List.mem_append_right _ (List.mem_append_left _ (List.mem_of_getElem? (i := 142) rfl)))))) rfl
set_option maxRecDepth 20000 in
theorem mw_548 : (Cond.codeWith y_Law_bits b_Law_bits 5 (some .int) [(0, 9, 12, 15), (0, 9, 16, 13)]) ∈ AW := inAW (List.mem_append_right _ (show _ ∈ tables_1_1 ++ (tables_1_2 ++ (tables_1_3 ++ tables_1_4)) from (List.mem_append_right _ (List.mem_append_right _ (List.mem_append_left _ (List.mem_of_getElem? (i := 143) rfl)))))) rfl
set_option maxRecDepth 20000 in
theorem mw_549 : (Cond.methodLink R_Law 107 y_Mdl_bits) ∈ AW := inAW (List.mem_append_right _ (show _ ∈ tables_1_1 ++ (tables_1_2 ++ (tables_1_3 ++ tables_1_4)) from (List.mem_append_right _ (List.mem_append_right _ (List.mem_append_right _ (List.mem_of_getElem? (i := 109) rfl)))))) rfl
set_option maxRecDepth 20000 in
theorem mw_550 : (Cond.instanceMethod y_Mdl_bits) ∈ AW := inAW (List.mem_append_right _ (show _ ∈ tables_1_1 ++ (tables_1_2 ++ (tables_1_3 ++ tables_1_4)) from (List.mem_append_right _ (List.mem_append_right _ (List.mem_append_right _ (List.mem_of_getElem? (i := 110) rfl)))))) rfl
set_option maxRecDepth 20000 in
theorem mw_551 : (Cond.selects R_Mdl y_Mdl_bits y_Mdl_bits) ∈ AW := inAW (List.mem_append_right _ (show _ ∈ tables_1_1 ++ (tables_1_2 ++ (tables_1_3 ++ tables_1_4)) from (List.mem_append_right _ (List.mem_append_right _ (List.mem_append_right _ (List.mem_of_getElem? (i := 111) rfl)))))) rfl
set_option maxRecDepth 20000 in
theorem mw_552 : (Cond.code y_Mdl_bits b_Mdl_bits 7 (some .long)) ∈ AW := inAW (List.mem_append_right _ (show _ ∈ tables_1_1 ++ (tables_1_2 ++ (tables_1_3 ++ tables_1_4)) from (List.mem_append_right _ (List.mem_append_right _ (List.mem_append_right _ (List.mem_of_getElem? (i := 112) rfl)))))) rfl
set_option maxRecDepth 20000 in
theorem mw_553 : (Cond.methodLink R_Law 108 y_LB_register) ∈ AW := inAW (List.mem_append_right _ (show _ ∈ tables_1_1 ++ (tables_1_2 ++ (tables_1_3 ++ tables_1_4)) from (List.mem_append_left _ (List.mem_of_getElem? (i := 218) rfl)))) rfl
set_option maxRecDepth 20000 in
theorem mw_554 : (Cond.instanceMethod y_LB_register) ∈ AW := inAW (List.mem_append_right _ (show _ ∈ tables_1_1 ++ (tables_1_2 ++ (tables_1_3 ++ tables_1_4)) from (List.mem_append_left _ (List.mem_of_getElem? (i := 219) rfl)))) rfl
set_option maxRecDepth 20000 in
theorem mw_555 : (Cond.selects R_LB y_LB_register y_LB_register) ∈ AW := inAW (List.mem_append_right _ (show _ ∈ tables_1_1 ++ (tables_1_2 ++ (tables_1_3 ++ tables_1_4)) from (List.mem_append_left _ (List.mem_of_getElem? (i := 220) rfl)))) rfl
set_option maxRecDepth 20000 in
theorem mw_556 : (Cond.code y_LB_register b_LB_register 2 (some .int)) ∈ AW := inAW (List.mem_append_right _ (show _ ∈ tables_1_1 ++ (tables_1_2 ++ (tables_1_3 ++ tables_1_4)) from (List.mem_append_left _ (List.mem_of_getElem? (i := 221) rfl)))) rfl
set_option maxRecDepth 20000 in
theorem mw_557 : (Cond.methodLink R_Law 111 y_Mdl_register) ∈ AW := inAW (List.mem_append_right _ (show _ ∈ tables_1_1 ++ (tables_1_2 ++ (tables_1_3 ++ tables_1_4)) from (List.mem_append_right _ (List.mem_append_right _ (List.mem_append_right _ (List.mem_of_getElem? (i := 127) rfl)))))) rfl
set_option maxRecDepth 20000 in
theorem mw_558 : (Cond.instanceMethod y_Mdl_register) ∈ AW := inAW (List.mem_append_right _ (show _ ∈ tables_1_1 ++ (tables_1_2 ++ (tables_1_3 ++ tables_1_4)) from (List.mem_append_right _ (List.mem_append_right _ (List.mem_append_right _ (List.mem_of_getElem? (i := 128) rfl)))))) rfl
set_option maxRecDepth 20000 in
theorem mw_559 : (Cond.selects R_Mdl y_Mdl_register y_Mdl_register) ∈ AW := inAW (List.mem_append_right _ (show _ ∈ tables_1_1 ++ (tables_1_2 ++ (tables_1_3 ++ tables_1_4)) from (List.mem_append_right _ (List.mem_append_right _ (List.mem_append_right _ (List.mem_of_getElem? (i := 129) rfl)))))) rfl
set_option maxRecDepth 20000 in
theorem mw_560 : (Cond.code y_Mdl_register b_Mdl_register 2 (some .int)) ∈ AW := inAW (List.mem_append_right _ (show _ ∈ tables_1_1 ++ (tables_1_2 ++ (tables_1_3 ++ tables_1_4)) from (List.mem_append_right _ (List.mem_append_right _ (List.mem_append_right _ (List.mem_of_getElem? (i := 130) rfl)))))) rfl
def R_law : String := "LikelyBitsLaw"
def lw_P (b : Addr) (xs : List Int32) (args : Array Value) (s : State) : Prop := args = #[.ref b] ∧ s.IntsAt b xs ∧ xs.length ≤ 2560 ∧ (Jvm.Cond.and given_1 narrow_1).before args s = true
def lw_Q (_ : Array Value) (s : State) (o : Outcome) (t : State) : Prop := o = .returned (some (.int 1)) ∧ Framed s o t [] 601024 7293034
def lw_Z (below : List Frame) (a : Array Value) (s : State) : State → Prop := fun t => ∃ o, t.status = .running ∧ Ended t below o ∧ lw_Q a s o t
/-- the law's own end, with 1 on the stack, nothing written that was there before, its room as the claim has it -/
theorem lw_ret {p : Program} {l : Launch} {e : Env} {s : State} {m : MethodId} {below : List Frame} {meth : Method} {c : Code} {b : Nat} (hx : p.tables.exec = Jvm.exec) (hb : c.code = code) (hr : meth.sig.returnType = ret) (hlocks : meth.locks = false) {pc : Nat} {H : Heap} {ls : Array Slot} (hdg : decode code pc = .ok (.ireturn, 1)) : W p l e room_1 s m #[Value.ref b] below meth c H [] 601024 7293034 (lw_Z below #[Value.ref b] s) (F0 m pc ls [.int 1]) := by
  intro T hT X
  obtain ⟨fs, hret, hrun, hended, hW, hframe⟩ := X.leave (v := some (.int 1)) (hlocks := hlocks) (fun h => by rw [hr] at h; cases h)
  have hmeth' : T.vm.method? m = some meth := X.method'
  refine ⟨T.setFrames fs, ?_, .returned (some (.int 1)), hrun, hended, rfl, ⟨_, rfl⟩, hW, hframe⟩
  jvm_step X.here [X.here.top, hx, hb, hdg, hmeth', hr, ret, narrow_b1]
  (try refine ⟨rfl, ?_⟩); (try refine ⟨rfl, ?_⟩)
  first | (intro acts; rw [hret _ acts rfl rfl rfl]) | rw [hret _ _ rfl rfl rfl]
  exact Steps.refl _
/-- what holds at the law's entry: the machine, the code, the tables' words (any of lw_tbl by 'hts w (by decide +kernel)'), the script of L ints xs at the cell b, what the Statement gives of the start (any of its parts by flat_of_before) -/
def lw_At (p : Program) (s : State) (m : MethodId) (meth : Method) (c : Code) (b L : Nat) (xs : Nat → Int32) : Prop :=
  p.tables.exec = Jvm.exec ∧ c.code = code ∧ meth.sig.returnType = ret ∧ c.maxLocals = 8 ∧ s.vm.findClass R_law = some m.cls ∧ (∀ w ∈ lw_tbl, w.before #[Value.ref b] s = true) ∧ va_X b L xs s s.heap ∧ b < s.heap.size ∧ meth.locks = false ∧ (Jvm.Cond.and given_1 narrow_1).before #[Value.ref b] s = true
def LCont (l : Launch) (D : va_G) (k : gK) (p : Program) (e : Env) (s : State) (m : MethodId) (below : List Frame) (meth : Method) (c : Code) (A : Nat → Prop) (b h0 zr zc zf zg yc yf yg zs zw zv zt zd ze Mh pP pO pB pS pK qo : Nat) (cn : Nat) (i : Int32) (pc : Nat) : Prop :=
  ∀ (za : Nat) (n : Nat) (f : Nat → Int32) (u : Int32) (L : List Int32) (sf : Nat → Int32) (lf : Nat → Int32) (tf : Nat → Int32) (mf : Nat → Int32) (so : Int32) (sr : Int32) (dr : Int32) (dw : Int32) (a : Int32) (lo : Int32) (sz : Int32) (rm : Int32) (rw : Int32) (pl : Int32) (ln : Int32) (cm : Int32) (la : Int32) (va : Int32) (sy : Int32) (ry : Int32) (lb : Int32) (le : Int32) (Mth : Int32) (Msz : Int32) (op : Int32) (Mrw : Int32) (bg : Int32) (Mlo : Int32) (cd : Int32) (wd : Int32) (Mrm : Int32) (rg : Int32) (rr : Int32) (Mpl : Int32) (lm : Int32) (nx : Int32) (av : Int64) (sp : Int32) (Mle : Int32) (Mla : Int32) (MB : Nat → Int32) (S : Nat → Int32) (K : Nat → Int32) (fo : Nat → Int64), (CJ cn so dr op rg bg sf lf tf mf S K L) → (WJ so dr sr a lo sz rm rw Mrw bg Mlo cd wd Mrm L) → (RJ (960 * (1000 - cn)) dr dw pl ln cm la va sy ry lb le rr Mpl lm nx av sp Mle Mla L) → (row_ok n f u L) → (row_ok 65536 MB Msz L) →
    ∀ (H : Heap) (locs : List Loc) (cells slots : Nat), (cells ≤ 200 + n + cn ∧ slots ≤ 70000 + 2 * n + 6 * cn) → va_P D vwCl [(h0, .inr (8, [.ref zr, .ref zc, .ref yc, .ref zs, .ref zw, .ref zv, .ref zt, .ref zd, .ref ze, .int so, .int sr, .int dr, .int dw])), (zr, .inr (0, [.ref za, .int u])), (za, .inl (k.1, n, .inl f)), (zc, .inr (1, [.ref zf, .ref zg])), (zf, .inl (k.1, 19, .inl sf)), (zg, .inl (k.1, 19, .inl lf)), (yc, .inr (1, [.ref yf, .ref yg])), (yf, .inl (k.1, 19, .inl tf)), (yg, .inl (k.1, 19, .inl mf)), (zs, .inr (2, [.ref zr, .int a])), (zw, .inr (4, [.ref zs, .ref zc, .int lo, .int sz, .int rm])), (zv, .inr (6, [.ref zs, .int rw])), (zt, .inr (3, [.ref zr, .int pl, .int ln, .int cm])), (zd, .inr (5, [.ref zt, .ref yc, .int la, .int va, .int sy, .int ry])), (ze, .inr (7, [.ref zt, .int lb, .int le])), (Mh, .inr (9, [.ref pP, .ref pO, .int Mth, .int Msz, .ref pB, .ref pS, .ref pK, .int op, .int Mrw, .int bg, .int Mlo, .int cd, .int wd, .int Mrm, .int rg, .int rr, .int Mpl, .int lm, .int nx, .long av, .int sp, .int Mle, .int Mla])), (pP, .inl (k.1, 47, .inl tfP)), (pO, .inl (k.1, 47, .inl tfO)), (pB, .inl (k.1, 65536, .inl MB)), (pS, .inl (k.1, 38, .inl S)), (pK, .inl (k.1, 38, .inl K)), (qo, .inl (k.2.1, 1, .inr (.inl fo)))] H → va_D A [(h0, .inr (8, [.ref zr, .ref zc, .ref yc, .ref zs, .ref zw, .ref zv, .ref zt, .ref zd, .ref ze, .int so, .int sr, .int dr, .int dw])), (zr, .inr (0, [.ref za, .int u])), (za, .inl (k.1, n, .inl f)), (zc, .inr (1, [.ref zf, .ref zg])), (zf, .inl (k.1, 19, .inl sf)), (zg, .inl (k.1, 19, .inl lf)), (yc, .inr (1, [.ref yf, .ref yg])), (yf, .inl (k.1, 19, .inl tf)), (yg, .inl (k.1, 19, .inl mf)), (zs, .inr (2, [.ref zr, .int a])), (zw, .inr (4, [.ref zs, .ref zc, .int lo, .int sz, .int rm])), (zv, .inr (6, [.ref zs, .int rw])), (zt, .inr (3, [.ref zr, .int pl, .int ln, .int cm])), (zd, .inr (5, [.ref zt, .ref yc, .int la, .int va, .int sy, .int ry])), (ze, .inr (7, [.ref zt, .int lb, .int le])), (Mh, .inr (9, [.ref pP, .ref pO, .int Mth, .int Msz, .ref pB, .ref pS, .ref pK, .int op, .int Mrw, .int bg, .int Mlo, .int cd, .int wd, .int Mrm, .int rg, .int rr, .int Mpl, .int lm, .int nx, .long av, .int sp, .int Mle, .int Mla])), (pP, .inl (k.1, 47, .inl tfP)), (pO, .inl (k.1, 47, .inl tfO)), (pB, .inl (k.1, 65536, .inl MB)), (pS, .inl (k.1, 38, .inl S)), (pK, .inl (k.1, 38, .inl K)), (qo, .inl (k.2.1, 1, .inr (.inl fo)))] → va_S A s.heap H locs → ∀ ls : Array Slot, lv_has ls 8 [(0, .ref b), (1, .ref h0), (2, .ref Mh), (3, .ref qo), (4, .int i)] →
      W p l e room_1 s m #[Value.ref b] below meth c H locs cells slots (lw_Z below #[Value.ref b] s) (F0 m pc ls [])
theorem cj_clear {cn : Nat} {so dr op rg bg : Int32} {sf lf tf mf S K : Nat → Int32} {L : List Int32} (hC : CJ cn so dr op rg bg sf lf tf mf S K L) : CJ (cn + 1) 0 0 0 0 bg sf lf tf mf S K [] := by
  obtain ⟨h1, h2, h3, h4, h5, h6, h7, h8, h9, h10⟩ := hC
  exact ⟨rfl, Or.inl rfl, rfl, Or.inl rfl, h5, h6, fun b hb => absurd hb List.not_mem_nil, h8, LBd_mk (Nat.zero_le _) (fun _ => Nat.zero_le _) (fun _ => Nat.zero_le _), fun _ => rfl⟩
theorem lw_ix {cn Ls j : Nat} {i : Int32} (hi : i = nI (5 * cn)) (h5 : 5 * cn + 5 ≤ Ls) (hLs : Ls ≤ 2560) (hj : j < 5) : vp_in (i + nI j) Ls := by
  rw [hi, nI_add]; exact vp_in_nI (by omega) (by omega)

set_option maxRecDepth 20000 in
theorem mw_323 : (Cond.fieldLink R_Mdl 26 "LikelyBitsModel" "thrown" "I") ∈ AW := inAW (List.mem_append_right _ (show _ ∈ tables_1_1 ++ (tables_1_2 ++ (tables_1_3 ++ tables_1_4)) from (List.mem_append_right _ (List.mem_append_right _ (List.mem_append_left _ (List.mem_of_getElem? (i := 175) rfl)))))) rfl
set_option maxRecDepth 20000 in
theorem mw_324 : (Cond.fieldLink R_Mdl 30 "LikelyBitsModel" "size" "I") ∈ AW := inAW (List.mem_append_right _ (show _ ∈ tables_1_1 ++ (tables_1_2 ++ (tables_1_3 ++ tables_1_4)) from (List.mem_append_right _ (List.mem_append_right _ (List.mem_append_left _ (List.mem_of_getElem? (i := 176) rfl)))))) rfl
set_option maxRecDepth 20000 in
theorem mw_325 : (Cond.fieldLink R_Mdl 33 "LikelyBitsModel" "open" "Z") ∈ AW := inAW (List.mem_append_right _ (show _ ∈ tables_1_1 ++ (tables_1_2 ++ (tables_1_3 ++ tables_1_4)) from (List.mem_append_right _ (List.mem_append_right _ (List.mem_append_left _ (List.mem_of_getElem? (i := 180) rfl)))))) rfl
set_option maxRecDepth 20000 in
theorem mw_326 : (Cond.fieldLink R_Mdl 37 "LikelyBitsModel" "reading" "Z") ∈ AW := inAW (List.mem_append_right _ (show _ ∈ tables_1_1 ++ (tables_1_2 ++ (tables_1_3 ++ tables_1_4)) from (List.mem_append_right _ (List.mem_append_right _ (List.mem_append_left _ (List.mem_of_getElem? (i := 187) rfl)))))) rfl
set_option maxRecDepth 20000 in
theorem mw_327 : (Cond.fieldLink R_Mdl 53 "LikelyBitsModel" "begin" "I") ∈ AW := inAW (List.mem_append_right _ (show _ ∈ tables_1_1 ++ (tables_1_2 ++ (tables_1_3 ++ tables_1_4)) from (List.mem_append_right _ (List.mem_append_right _ (List.mem_append_left _ (List.mem_of_getElem? (i := 182) rfl)))))) rfl
set_option maxRecDepth 20000 in
theorem mw_328 : (Cond.methodLink R_Mdl 56 y_Mdl_hasLast) ∈ AW := inAW (List.mem_append_right _ (show _ ∈ tables_1_1 ++ (tables_1_2 ++ (tables_1_3 ++ tables_1_4)) from (List.mem_append_right _ (List.mem_append_right _ (List.mem_append_right _ (List.mem_of_getElem? (i := 48) rfl)))))) rfl
set_option maxRecDepth 20000 in
theorem mw_329 : (Cond.instanceMethod y_Mdl_hasLast) ∈ AW := inAW (List.mem_append_right _ (show _ ∈ tables_1_1 ++ (tables_1_2 ++ (tables_1_3 ++ tables_1_4)) from (List.mem_append_right _ (List.mem_append_right _ (List.mem_append_right _ (List.mem_of_getElem? (i := 50) rfl)))))) rfl
set_option maxRecDepth 20000 in
theorem mw_330 : (Cond.selects R_Mdl y_Mdl_hasLast y_Mdl_hasLast) ∈ AW := inAW (List.mem_append_left _ (List.mem_of_getElem? (i := 12) rfl)) rfl
set_option maxRecDepth 20000 in
theorem mw_331 : (Cond.initialized R_Mdl) ∈ AW := inAW (List.mem_append_right _ (show _ ∈ tables_1_1 ++ (tables_1_2 ++ (tables_1_3 ++ tables_1_4)) from (List.mem_append_left _ (List.mem_of_getElem? (i := 10) rfl)))) rfl
set_option maxRecDepth 20000 in
theorem mw_332 : (Cond.code y_Mdl_hasLast b_Mdl_hasLast 1 (some .boolean)) ∈ AW := inAW (List.mem_append_right _ (show _ ∈ tables_1_1 ++ (tables_1_2 ++ (tables_1_3 ++ tables_1_4)) from (List.mem_append_right _ (List.mem_append_right _ (List.mem_append_right _ (List.mem_of_getElem? (i := 51) rfl)))))) rfl
set_option maxRecDepth 20000 in
theorem mw_333 : (Cond.fieldLink R_Mdl 17 "LikelyBitsModel" "bytes" "[I") ∈ AW := inAW (List.mem_append_right _ (show _ ∈ tables_1_1 ++ (tables_1_2 ++ (tables_1_3 ++ tables_1_4)) from (List.mem_append_right _ (List.mem_append_right _ (List.mem_append_left _ (List.mem_of_getElem? (i := 177) rfl)))))) rfl
set_option maxRecDepth 20000 in
theorem mw_334 : (Cond.fieldLink R_Mdl 60 "LikelyBitsModel" "carried" "Z") ∈ AW := inAW (List.mem_append_right _ (show _ ∈ tables_1_1 ++ (tables_1_2 ++ (tables_1_3 ++ tables_1_4)) from (List.mem_append_right _ (List.mem_append_right _ (List.mem_append_left _ (List.mem_of_getElem? (i := 184) rfl)))))) rfl
set_option maxRecDepth 20000 in
theorem mw_335 : (Cond.fieldLink R_Mdl 63 "LikelyBitsModel" "room" "I") ∈ AW := inAW (List.mem_append_right _ (show _ ∈ tables_1_1 ++ (tables_1_2 ++ (tables_1_3 ++ tables_1_4)) from (List.mem_append_right _ (List.mem_append_right _ (List.mem_append_left _ (List.mem_of_getElem? (i := 186) rfl)))))) rfl
set_option maxRecDepth 20000 in
theorem mw_336 : (Cond.methodLink R_Mdl 66 y_Mdl_takes) ∈ AW := inAW (List.mem_append_right _ (show _ ∈ tables_1_1 ++ (tables_1_2 ++ (tables_1_3 ++ tables_1_4)) from (List.mem_append_right _ (List.mem_append_right _ (List.mem_append_right _ (List.mem_of_getElem? (i := 64) rfl)))))) rfl
set_option maxRecDepth 20000 in
theorem mw_337 : (Cond.instanceMethod y_Mdl_takes) ∈ AW := inAW (List.mem_append_right _ (show _ ∈ tables_1_1 ++ (tables_1_2 ++ (tables_1_3 ++ tables_1_4)) from (List.mem_append_right _ (List.mem_append_right _ (List.mem_append_right _ (List.mem_of_getElem? (i := 66) rfl)))))) rfl
set_option maxRecDepth 20000 in
theorem mw_338 : (Cond.selects R_Mdl y_Mdl_takes y_Mdl_takes) ∈ AW := inAW (List.mem_append_left _ (List.mem_of_getElem? (i := 16) rfl)) rfl
set_option maxRecDepth 20000 in
theorem mw_339 : (Cond.code y_Mdl_takes b_Mdl_takes 1 (some .boolean)) ∈ AW := inAW (List.mem_append_right _ (show _ ∈ tables_1_1 ++ (tables_1_2 ++ (tables_1_3 ++ tables_1_4)) from (List.mem_append_right _ (List.mem_append_right _ (List.mem_append_right _ (List.mem_of_getElem? (i := 67) rfl)))))) rfl
set_option maxRecDepth 20000 in
theorem mw_340 : (Cond.methodLink R_Mdl 69 y_Mdl_carry) ∈ AW := inAW (List.mem_append_right _ (show _ ∈ tables_1_1 ++ (tables_1_2 ++ (tables_1_3 ++ tables_1_4)) from (List.mem_append_right _ (List.mem_append_right _ (List.mem_append_right _ (List.mem_of_getElem? (i := 56) rfl)))))) rfl
set_option maxRecDepth 20000 in
theorem mw_341 : (Cond.instanceMethod y_Mdl_carry) ∈ AW := inAW (List.mem_append_right _ (show _ ∈ tables_1_1 ++ (tables_1_2 ++ (tables_1_3 ++ tables_1_4)) from (List.mem_append_right _ (List.mem_append_right _ (List.mem_append_right _ (List.mem_of_getElem? (i := 58) rfl)))))) rfl
set_option maxRecDepth 20000 in
theorem mw_342 : (Cond.selects R_Mdl y_Mdl_carry y_Mdl_carry) ∈ AW := inAW (List.mem_append_left _ (List.mem_of_getElem? (i := 14) rfl)) rfl
set_option maxRecDepth 20000 in
theorem mw_343 : (Cond.code y_Mdl_carry b_Mdl_carry 1 (some .int)) ∈ AW := inAW (List.mem_append_right _ (show _ ∈ tables_1_1 ++ (tables_1_2 ++ (tables_1_3 ++ tables_1_4)) from (List.mem_append_right _ (List.mem_append_right _ (List.mem_append_right _ (List.mem_of_getElem? (i := 59) rfl)))))) rfl
set_option maxRecDepth 20000 in
theorem mw_344 : (Cond.fieldLink R_Mdl 73 "LikelyBitsModel" "low" "I") ∈ AW := inAW (List.mem_append_right _ (show _ ∈ tables_1_1 ++ (tables_1_2 ++ (tables_1_3 ++ tables_1_4)) from (List.mem_append_right _ (List.mem_append_right _ (List.mem_append_left _ (List.mem_of_getElem? (i := 183) rfl)))))) rfl
theorem mhl_ne {a b : Int32} (h : ¬ mhl a b = 0) : ¬ a ≤ b := fun q => h (by rw [mhl, if_pos q])
theorem mhl_eq {a b : Int32} (h : mhl a b = 0) : a ≤ b := by
  unfold mhl at h
  split at h
  · assumption
  · exact absurd h (by decide)

set_option maxHeartbeats 1000000 in
set_option maxRecDepth 100000 in
theorem c_M_thrown (l : Launch) (hl9 : l.stackTraces = false) (D : va_G) (k : gK) (h0 : Nat) (pP : Nat) (pO : Nat) (pB : Nat) (pS : Nat) (pK : Nat) (th : Int32) (sz : Int32) (op : Int32) (rw : Int32) (bg : Int32) (lo : Int32) (cd : Int32) (wd : Int32) (rm : Int32) (rg : Int32) (rr : Int32) (pl : Int32) (lm : Int32) (nx : Int32) (av : Int64) (sp : Int32) (le : Int32) (la : Int32) : Met l y_Mdl_thrown (.code y_Mdl_thrown b_Mdl_thrown 1 (some .int) :: AW) { frames := 0, cells := 0, slots := 0, locals := 0 } (va_Pc [.ref h0] (GR D k [(h0, .inr (9, [.ref pP, .ref pO, .int th, .int sz, .ref pB, .ref pS, .ref pK, .int op, .int rw, .int bg, .int lo, .int cd, .int wd, .int rm, .int rg, .int rr, .int pl, .int lm, .int nx, .long av, .int sp, .int le, .int la]))])) (va_Qi (fun r (_ : Unit) => r = th) (fun _ _ => True) (fun _ => False)) 0 0 (fun _ => False) := by
  refine kMetR (ws := [(h0, .inr (9, [.ref pP, .ref pO, .int th, .int sz, .ref pB, .ref pS, .ref pK, .int op, .int rw, .int bg, .int lo, .int cd, .int wd, .int rm, .int rg, .int rr, .int pl, .int lm, .int nx, .long av, .int sp, .int le, .int la]))]) (by decide) (Nat.le_of_ble_eq_true rfl) (fun p e s m below meth c ls H Cc hP hS hl => ?_)
  obtain ⟨hx, hb, hml, hr, hlk, hown, hts, hK, hE, hin⟩ := Cc
  have hl : lv_has ls 1 [(0, .ref h0)] := hl
  refine lv_aload_n hx hb d_Mdl_thrown_0 rfl (lv_at hl 0 rfl) ?_
  refine va_get (D := D) (ci := 9) (v := .int th) (C := R_Mdl) (T := T_Mdl) (N := 23) hx hb hts inw_Mdl hown hK hP 0 rfl rfl 2 (by decide) (hts (.fieldLink R_Mdl 26 "LikelyBitsModel" "thrown" "I") mw_323) (fun _ h9 => h9) rfl d_Mdl_thrown_1 ?_
  exact koi hx hb hr hlk hS rfl (Nat.le_of_ble_eq_true rfl) (Nat.le_of_ble_eq_true rfl) d_Mdl_thrown_4

def wo_M_throwing (k : gK) (h0 : Nat) (pP : Nat) (pO : Nat) (pB : Nat) (pS : Nat) (pK : Nat) (th : Int32) (sz : Int32) (op : Int32) (rw : Int32) (bg : Int32) (lo : Int32) (cd : Int32) (wd : Int32) (rm : Int32) (rg : Int32) (rr : Int32) (pl : Int32) (lm : Int32) (nx : Int32) (av : Int64) (sp : Int32) (le : Int32) (la : Int32) (x : Int32) (y : Int32) (z : Int32) (zz : Unit) (uu : Int32) : va_W := match zz, uu with
  | _, th2 => [(h0, .inr (9, [.ref pP, .ref pO, .int th2, .int sz, .ref pB, .ref pS, .ref pK, .int op, .int rw, .int bg, .int lo, .int cd, .int wd, .int rm, .int rg, .int rr, .int pl, .int lm, .int nx, .long av, .int sp, .int le, .int la]))]
def ex_M_throwing (k : gK) (h0 : Nat) (pP : Nat) (pO : Nat) (pB : Nat) (pS : Nat) (pK : Nat) (th : Int32) (sz : Int32) (op : Int32) (rw : Int32) (bg : Int32) (lo : Int32) (cd : Int32) (wd : Int32) (rm : Int32) (rg : Int32) (rr : Int32) (pl : Int32) (lm : Int32) (nx : Int32) (av : Int64) (sp : Int32) (le : Int32) (la : Int32) (x : Int32) (y : Int32) (z : Int32) (zz : Unit) (uu : Int32) : Prop := match zz, uu with
  | _, th2 => True
def po_M_throwing (k : gK) (h0 : Nat) (pP : Nat) (pO : Nat) (pB : Nat) (pS : Nat) (pK : Nat) (th : Int32) (sz : Int32) (op : Int32) (rw : Int32) (bg : Int32) (lo : Int32) (cd : Int32) (wd : Int32) (rm : Int32) (rg : Int32) (rr : Int32) (pl : Int32) (lm : Int32) (nx : Int32) (av : Int64) (sp : Int32) (le : Int32) (la : Int32) (x : Int32) (y : Int32) (z : Int32) (r : Int32) (uu : Int32) : Prop := match uu with
  | th2 => r = mtb x y z ∧ th2 = mth x y z
def qc_M_throwing (D : va_G) (k : gK) (h0 : Nat) (pP : Nat) (pO : Nat) (pB : Nat) (pS : Nat) (pK : Nat) (th : Int32) (sz : Int32) (op : Int32) (rw : Int32) (bg : Int32) (lo : Int32) (cd : Int32) (wd : Int32) (rm : Int32) (rg : Int32) (rr : Int32) (pl : Int32) (lm : Int32) (nx : Int32) (av : Int64) (sp : Int32) (le : Int32) (la : Int32) (x : Int32) (y : Int32) (z : Int32) (A : Nat → Prop) : Array Value → State → Outcome → State → Prop := va_Qi (po_M_throwing k h0 pP pO pB pS pK th sz op rw bg lo cd wd rm rg rr pl lm nx av sp le la x y z) (fun uu t => ∃ zz, ex_M_throwing k h0 pP pO pB pS pK th sz op rw bg lo cd wd rm rg rr pl lm nx av sp le la x y z zz uu ∧ GP D A (wo_M_throwing k h0 pP pO pB pS pK th sz op rw bg lo cd wd rm rg rr pl lm nx av sp le la x y z zz uu) t) A
set_option maxHeartbeats 1000000 in
set_option maxRecDepth 100000 in
theorem c_M_throwing (l : Launch) (hl9 : l.stackTraces = false) (D : va_G) (k : gK) (h0 : Nat) (zsz : Nat) (pP : Nat) (pO : Nat) (pB : Nat) (pS : Nat) (pK : Nat) (th : Int32) (sz : Int32) (op : Int32) (rw : Int32) (bg : Int32) (lo : Int32) (cd : Int32) (wd : Int32) (rm : Int32) (rg : Int32) (rr : Int32) (pl : Int32) (lm : Int32) (nx : Int32) (av : Int64) (sp : Int32) (le : Int32) (la : Int32) (x : Int32) (y : Int32) (z : Int32) : Met l y_Mdl_throwing (.code y_Mdl_throwing b_Mdl_throwing 4 (some .boolean) :: AW) ({ frames := 0, cells := 0, slots := 0, locals := 0 }) (va_Pc [.ref h0, .int x, .int y, .int z] (GG D k [(h0, .inr (9, [.ref pP, .ref pO, .int th, .int sz, .ref pB, .ref pS, .ref pK, .int op, .int rw, .int bg, .int lo, .int cd, .int wd, .int rm, .int rg, .int rr, .int pl, .int lm, .int nx, .long av, .int sp, .int le, .int la]))] zsz)) (qc_M_throwing D k h0 pP pO pB pS pK th sz op rw bg lo cd wd rm rg rr pl lm nx av sp le la x y z (va_A [(h0, .inr (9, [.ref pP, .ref pO, .int th, .int sz, .ref pB, .ref pS, .ref pK, .int op, .int rw, .int bg, .int lo, .int cd, .int wd, .int rm, .int rg, .int rr, .int pl, .int lm, .int nx, .long av, .int sp, .int le, .int la]))] zsz)) 0 0 (va_A [(h0, .inr (9, [.ref pP, .ref pO, .int th, .int sz, .ref pB, .ref pS, .ref pK, .int op, .int rw, .int bg, .int lo, .int cd, .int wd, .int rm, .int rg, .int rr, .int pl, .int lm, .int nx, .long av, .int sp, .int le, .int la]))] zsz) := by
  refine kMet (ws := [(h0, .inr (9, [.ref pP, .ref pO, .int th, .int sz, .ref pB, .ref pS, .ref pK, .int op, .int rw, .int bg, .int lo, .int cd, .int wd, .int rm, .int rg, .int rr, .int pl, .int lm, .int nx, .long av, .int sp, .int le, .int la]))]) (Qc := qc_M_throwing D k h0 pP pO pB pS pK th sz op rw bg lo cd wd rm rg rr pl lm nx av sp le la x y z) (by decide) (Nat.le_of_ble_eq_true rfl) (fun p e s m below meth c ls A H Cc hP hD hA hS hl => ?_)
  obtain ⟨hx, hb, hml, hr, hlk, hown, hts, hK, hE, hin⟩ := Cc
  have hl : lv_has ls 4 [(0, .ref h0), (1, .int x), (2, .int y), (3, .int z)] := hl
  refine lv_aload_n hx hb d_Mdl_throwing_0 rfl (lv_at hl 0 rfl) ?_
  refine lv_iload_n hx hb d_Mdl_throwing_1 rfl (lv_at hl 1 rfl) ?_
  refine lv_if_eq (tgt := 9) hx hb d_Mdl_throwing_2 (by decide) (fun c1 => ?_) (fun c1 => ?_)
  · refine lv_iload_n hx hb d_Mdl_throwing_9 rfl (lv_at hl 2 rfl) ?_
    refine lv_if_eq (tgt := 17) hx hb d_Mdl_throwing_10 (by decide) (fun c2 => ?_) (fun c2 => ?_)
    · refine lv_iload_n hx hb d_Mdl_throwing_17 rfl (lv_at hl 3 rfl) ?_
      refine lv_if_eq (tgt := 25) hx hb d_Mdl_throwing_18 (by decide) (fun c3 => ?_) (fun c3 => ?_)
      · refine lv_iconst (v := 0) hx hb d_Mdl_throwing_25 (by decide) ?_
        refine va_put (D := D) (ci := 9) (v := .int 0) (ty := .int) (C := R_Mdl) (T := T_Mdl) (N := 23) hx hb hts inw_Mdl ty_Mdl tyok_Mdl nm_Mdl hown hK hP hD hS 0 rfl rfl 2 (by decide) (hts (.fieldLink R_Mdl 26 "LikelyBitsModel" "thrown" "I") mw_323) (fun _ h9 => h9) rfl (by decide +kernel) rfl rfl (Nat.le_of_ble_eq_true rfl) d_Mdl_throwing_26 (fun H locs hP hD hS => ?_)
        have hP : va_P D vwCl [(h0, .inr (9, [.ref pP, .ref pO, .int 0, .int sz, .ref pB, .ref pS, .ref pK, .int op, .int rw, .int bg, .int lo, .int cd, .int wd, .int rm, .int rg, .int rr, .int pl, .int lm, .int nx, .long av, .int sp, .int le, .int la]))] H := hP
        have hD : va_D A [(h0, .inr (9, [.ref pP, .ref pO, .int 0, .int sz, .ref pB, .ref pS, .ref pK, .int op, .int rw, .int bg, .int lo, .int cd, .int wd, .int rm, .int rg, .int rr, .int pl, .int lm, .int nx, .long av, .int sp, .int le, .int la]))] := hD
        refine lv_aload_n hx hb d_Mdl_throwing_29 rfl (lv_at hl 0 rfl) ?_
        refine va_get (D := D) (ci := 9) (v := .int 0) (C := R_Mdl) (T := T_Mdl) (N := 23) hx hb hts inw_Mdl hown hK hP 0 rfl rfl 2 (by decide) (hts (.fieldLink R_Mdl 26 "LikelyBitsModel" "thrown" "I") mw_323) (fun _ h9 => h9) rfl d_Mdl_throwing_30 ?_
        refine lv_if_le (tgt := 40) hx hb d_Mdl_throwing_33 (by decide) (fun c4 => ?_) (fun c4 => ?_)
        · refine lv_iconst (v := 0) hx hb d_Mdl_throwing_40 (by decide) ?_
          exact krz (wo := wo_M_throwing k h0 pP pO pB pS pK th sz op rw bg lo cd wd rm rg rr pl lm nx av sp le la x y z) hx hb hr hlk (Or.inl rfl) hP hD hS 0 () (by simp [po_M_throwing, mtb, mth, c1, c2, c3, c4]) trivial [0] rfl (by decide) (Nat.le_of_ble_eq_true rfl) (Nat.le_of_ble_eq_true rfl) d_Mdl_throwing_41
        · exact absurd (by decide) c4
      · refine lv_iconst (v := 3) hx hb d_Mdl_throwing_21 (by decide) ?_
        refine lv_goto (tgt := 26) hx hb d_Mdl_throwing_22 (by decide) ?_
        refine va_put (D := D) (ci := 9) (v := .int 3) (ty := .int) (C := R_Mdl) (T := T_Mdl) (N := 23) hx hb hts inw_Mdl ty_Mdl tyok_Mdl nm_Mdl hown hK hP hD hS 0 rfl rfl 2 (by decide) (hts (.fieldLink R_Mdl 26 "LikelyBitsModel" "thrown" "I") mw_323) (fun _ h9 => h9) rfl (by decide +kernel) rfl rfl (Nat.le_of_ble_eq_true rfl) d_Mdl_throwing_26 (fun H locs hP hD hS => ?_)
        have hP : va_P D vwCl [(h0, .inr (9, [.ref pP, .ref pO, .int 3, .int sz, .ref pB, .ref pS, .ref pK, .int op, .int rw, .int bg, .int lo, .int cd, .int wd, .int rm, .int rg, .int rr, .int pl, .int lm, .int nx, .long av, .int sp, .int le, .int la]))] H := hP
        have hD : va_D A [(h0, .inr (9, [.ref pP, .ref pO, .int 3, .int sz, .ref pB, .ref pS, .ref pK, .int op, .int rw, .int bg, .int lo, .int cd, .int wd, .int rm, .int rg, .int rr, .int pl, .int lm, .int nx, .long av, .int sp, .int le, .int la]))] := hD
        refine lv_aload_n hx hb d_Mdl_throwing_29 rfl (lv_at hl 0 rfl) ?_
        refine va_get (D := D) (ci := 9) (v := .int 3) (C := R_Mdl) (T := T_Mdl) (N := 23) hx hb hts inw_Mdl hown hK hP 0 rfl rfl 2 (by decide) (hts (.fieldLink R_Mdl 26 "LikelyBitsModel" "thrown" "I") mw_323) (fun _ h9 => h9) rfl d_Mdl_throwing_30 ?_
        refine lv_if_le (tgt := 40) hx hb d_Mdl_throwing_33 (by decide) (fun c5 => ?_) (fun c5 => ?_)
        · exact absurd c5 (by decide)
        · refine lv_iconst (v := 1) hx hb d_Mdl_throwing_36 (by decide) ?_
          refine lv_goto (tgt := 41) hx hb d_Mdl_throwing_37 (by decide) ?_
          exact krz (wo := wo_M_throwing k h0 pP pO pB pS pK th sz op rw bg lo cd wd rm rg rr pl lm nx av sp le la x y z) hx hb hr hlk (Or.inr rfl) hP hD hS 3 () (by simp [po_M_throwing, mtb, mth, c1, c2, c3, c5]) trivial [0] rfl (by decide) (Nat.le_of_ble_eq_true rfl) (Nat.le_of_ble_eq_true rfl) d_Mdl_throwing_41
    · refine lv_iconst (v := 2) hx hb d_Mdl_throwing_13 (by decide) ?_
      refine lv_goto (tgt := 26) hx hb d_Mdl_throwing_14 (by decide) ?_
      refine va_put (D := D) (ci := 9) (v := .int 2) (ty := .int) (C := R_Mdl) (T := T_Mdl) (N := 23) hx hb hts inw_Mdl ty_Mdl tyok_Mdl nm_Mdl hown hK hP hD hS 0 rfl rfl 2 (by decide) (hts (.fieldLink R_Mdl 26 "LikelyBitsModel" "thrown" "I") mw_323) (fun _ h9 => h9) rfl (by decide +kernel) rfl rfl (Nat.le_of_ble_eq_true rfl) d_Mdl_throwing_26 (fun H locs hP hD hS => ?_)
      have hP : va_P D vwCl [(h0, .inr (9, [.ref pP, .ref pO, .int 2, .int sz, .ref pB, .ref pS, .ref pK, .int op, .int rw, .int bg, .int lo, .int cd, .int wd, .int rm, .int rg, .int rr, .int pl, .int lm, .int nx, .long av, .int sp, .int le, .int la]))] H := hP
      have hD : va_D A [(h0, .inr (9, [.ref pP, .ref pO, .int 2, .int sz, .ref pB, .ref pS, .ref pK, .int op, .int rw, .int bg, .int lo, .int cd, .int wd, .int rm, .int rg, .int rr, .int pl, .int lm, .int nx, .long av, .int sp, .int le, .int la]))] := hD
      refine lv_aload_n hx hb d_Mdl_throwing_29 rfl (lv_at hl 0 rfl) ?_
      refine va_get (D := D) (ci := 9) (v := .int 2) (C := R_Mdl) (T := T_Mdl) (N := 23) hx hb hts inw_Mdl hown hK hP 0 rfl rfl 2 (by decide) (hts (.fieldLink R_Mdl 26 "LikelyBitsModel" "thrown" "I") mw_323) (fun _ h9 => h9) rfl d_Mdl_throwing_30 ?_
      refine lv_if_le (tgt := 40) hx hb d_Mdl_throwing_33 (by decide) (fun c6 => ?_) (fun c6 => ?_)
      · exact absurd c6 (by decide)
      · refine lv_iconst (v := 1) hx hb d_Mdl_throwing_36 (by decide) ?_
        refine lv_goto (tgt := 41) hx hb d_Mdl_throwing_37 (by decide) ?_
        exact krz (wo := wo_M_throwing k h0 pP pO pB pS pK th sz op rw bg lo cd wd rm rg rr pl lm nx av sp le la x y z) hx hb hr hlk (Or.inr rfl) hP hD hS 2 () (by simp [po_M_throwing, mtb, mth, c1, c2, c6]) trivial [0] rfl (by decide) (Nat.le_of_ble_eq_true rfl) (Nat.le_of_ble_eq_true rfl) d_Mdl_throwing_41
  · refine lv_iconst (v := 1) hx hb d_Mdl_throwing_5 (by decide) ?_
    refine lv_goto (tgt := 26) hx hb d_Mdl_throwing_6 (by decide) ?_
    refine va_put (D := D) (ci := 9) (v := .int 1) (ty := .int) (C := R_Mdl) (T := T_Mdl) (N := 23) hx hb hts inw_Mdl ty_Mdl tyok_Mdl nm_Mdl hown hK hP hD hS 0 rfl rfl 2 (by decide) (hts (.fieldLink R_Mdl 26 "LikelyBitsModel" "thrown" "I") mw_323) (fun _ h9 => h9) rfl (by decide +kernel) rfl rfl (Nat.le_of_ble_eq_true rfl) d_Mdl_throwing_26 (fun H locs hP hD hS => ?_)
    have hP : va_P D vwCl [(h0, .inr (9, [.ref pP, .ref pO, .int 1, .int sz, .ref pB, .ref pS, .ref pK, .int op, .int rw, .int bg, .int lo, .int cd, .int wd, .int rm, .int rg, .int rr, .int pl, .int lm, .int nx, .long av, .int sp, .int le, .int la]))] H := hP
    have hD : va_D A [(h0, .inr (9, [.ref pP, .ref pO, .int 1, .int sz, .ref pB, .ref pS, .ref pK, .int op, .int rw, .int bg, .int lo, .int cd, .int wd, .int rm, .int rg, .int rr, .int pl, .int lm, .int nx, .long av, .int sp, .int le, .int la]))] := hD
    refine lv_aload_n hx hb d_Mdl_throwing_29 rfl (lv_at hl 0 rfl) ?_
    refine va_get (D := D) (ci := 9) (v := .int 1) (C := R_Mdl) (T := T_Mdl) (N := 23) hx hb hts inw_Mdl hown hK hP 0 rfl rfl 2 (by decide) (hts (.fieldLink R_Mdl 26 "LikelyBitsModel" "thrown" "I") mw_323) (fun _ h9 => h9) rfl d_Mdl_throwing_30 ?_
    refine lv_if_le (tgt := 40) hx hb d_Mdl_throwing_33 (by decide) (fun c7 => ?_) (fun c7 => ?_)
    · exact absurd c7 (by decide)
    · refine lv_iconst (v := 1) hx hb d_Mdl_throwing_36 (by decide) ?_
      refine lv_goto (tgt := 41) hx hb d_Mdl_throwing_37 (by decide) ?_
      exact krz (wo := wo_M_throwing k h0 pP pO pB pS pK th sz op rw bg lo cd wd rm rg rr pl lm nx av sp le la x y z) hx hb hr hlk (Or.inr rfl) hP hD hS 1 () (by simp [po_M_throwing, mtb, mth, c1, c7]) trivial [0] rfl (by decide) (Nat.le_of_ble_eq_true rfl) (Nat.le_of_ble_eq_true rfl) d_Mdl_throwing_41

set_option maxHeartbeats 1000000 in
set_option maxRecDepth 100000 in
theorem c_M_out (l : Launch) (hl9 : l.stackTraces = false) (D : va_G) (k : gK) (x : Int32) (y : Int32) (z : Int32) : Met l y_Mdl_out (.code y_Mdl_out b_Mdl_out 3 (some .boolean) :: AW) { frames := 0, cells := 0, slots := 0, locals := 0 } (va_Pc [.int x, .int y, .int z] (GR D k [])) (va_Qi (fun r (_ : Unit) => r = mot x y z) (fun _ _ => True) (fun _ => False)) 0 0 (fun _ => False) := by
  refine kMetR (ws := []) (by decide) (Nat.le_of_ble_eq_true rfl) (fun p e s m below meth c ls H Cc hP hS hl => ?_)
  obtain ⟨hx, hb, hml, hr, hlk, hown, hts, hK, hE, hin⟩ := Cc
  have hl : lv_has ls 3 [(0, .int x), (1, .int y), (2, .int z)] := hl
  refine lv_iload_n hx hb d_Mdl_out_0 rfl (lv_at hl 0 rfl) ?_
  refine lv_iload_n hx hb d_Mdl_out_1 rfl (lv_at hl 1 rfl) ?_
  refine lv_icmp_lt (tgt := 10) hx hb d_Mdl_out_2 (by decide) (fun c1 => ?_) (fun c1 => ?_)
  · refine lv_iconst (v := 1) hx hb d_Mdl_out_10 (by decide) ?_
    refine lv_goto (tgt := 15) hx hb d_Mdl_out_11 (by decide) ?_
    exact koz hx hb hr hlk hS (Or.inr rfl) (by simp [mot, c1]) (Nat.le_of_ble_eq_true rfl) (Nat.le_of_ble_eq_true rfl) d_Mdl_out_15
  · refine lv_iload_n hx hb d_Mdl_out_5 rfl (lv_at hl 0 rfl) ?_
    refine lv_iload_n hx hb d_Mdl_out_6 rfl (lv_at hl 2 rfl) ?_
    refine lv_icmp_le (tgt := 14) hx hb d_Mdl_out_7 (by decide) (fun c2 => ?_) (fun c2 => ?_)
    · refine lv_iconst (v := 0) hx hb d_Mdl_out_14 (by decide) ?_
      exact koz hx hb hr hlk hS (Or.inl rfl) (by simp [mot, c1, c2]) (Nat.le_of_ble_eq_true rfl) (Nat.le_of_ble_eq_true rfl) d_Mdl_out_15
    · refine lv_iconst (v := 1) hx hb d_Mdl_out_10 (by decide) ?_
      refine lv_goto (tgt := 15) hx hb d_Mdl_out_11 (by decide) ?_
      exact koz hx hb hr hlk hS (Or.inr rfl) (by simp [mot, c1, c2]) (Nat.le_of_ble_eq_true rfl) (Nat.le_of_ble_eq_true rfl) d_Mdl_out_15

def wo_M_clear (k : gK) (h0 : Nat) (pP : Nat) (pO : Nat) (pB : Nat) (pS : Nat) (pK : Nat) (th : Int32) (sz : Int32) (op : Int32) (rw : Int32) (bg : Int32) (lo : Int32) (cd : Int32) (wd : Int32) (rm : Int32) (rg : Int32) (rr : Int32) (pl : Int32) (lm : Int32) (nx : Int32) (av : Int64) (sp : Int32) (le : Int32) (la : Int32) (zz : Unit) (uu : Unit) : va_W := match zz, uu with
  | _, _ => [(h0, .inr (9, [.ref pP, .ref pO, .int 0, .int 0, .ref pB, .ref pS, .ref pK, .int 0, .int rw, .int bg, .int lo, .int cd, .int wd, .int rm, .int 0, .int rr, .int pl, .int lm, .int nx, .long av, .int sp, .int le, .int la]))]
def ex_M_clear (k : gK) (h0 : Nat) (pP : Nat) (pO : Nat) (pB : Nat) (pS : Nat) (pK : Nat) (th : Int32) (sz : Int32) (op : Int32) (rw : Int32) (bg : Int32) (lo : Int32) (cd : Int32) (wd : Int32) (rm : Int32) (rg : Int32) (rr : Int32) (pl : Int32) (lm : Int32) (nx : Int32) (av : Int64) (sp : Int32) (le : Int32) (la : Int32) (zz : Unit) (uu : Unit) : Prop := match zz, uu with
  | _, _ => True
def po_M_clear (k : gK) (h0 : Nat) (pP : Nat) (pO : Nat) (pB : Nat) (pS : Nat) (pK : Nat) (th : Int32) (sz : Int32) (op : Int32) (rw : Int32) (bg : Int32) (lo : Int32) (cd : Int32) (wd : Int32) (rm : Int32) (rg : Int32) (rr : Int32) (pl : Int32) (lm : Int32) (nx : Int32) (av : Int64) (sp : Int32) (le : Int32) (la : Int32) (uu : Unit) : Prop := match uu with
  | _ => True
def qc_M_clear (D : va_G) (k : gK) (h0 : Nat) (pP : Nat) (pO : Nat) (pB : Nat) (pS : Nat) (pK : Nat) (th : Int32) (sz : Int32) (op : Int32) (rw : Int32) (bg : Int32) (lo : Int32) (cd : Int32) (wd : Int32) (rm : Int32) (rg : Int32) (rr : Int32) (pl : Int32) (lm : Int32) (nx : Int32) (av : Int64) (sp : Int32) (le : Int32) (la : Int32) (A : Nat → Prop) : Array Value → State → Outcome → State → Prop := va_Qv (po_M_clear k h0 pP pO pB pS pK th sz op rw bg lo cd wd rm rg rr pl lm nx av sp le la) (fun uu t => ∃ zz, ex_M_clear k h0 pP pO pB pS pK th sz op rw bg lo cd wd rm rg rr pl lm nx av sp le la zz uu ∧ GP D A (wo_M_clear k h0 pP pO pB pS pK th sz op rw bg lo cd wd rm rg rr pl lm nx av sp le la zz uu) t) A
set_option maxHeartbeats 1000000 in
set_option maxRecDepth 100000 in
theorem c_M_clear (l : Launch) (hl9 : l.stackTraces = false) (D : va_G) (k : gK) (h0 : Nat) (zsz : Nat) (pP : Nat) (pO : Nat) (pB : Nat) (pS : Nat) (pK : Nat) (th : Int32) (sz : Int32) (op : Int32) (rw : Int32) (bg : Int32) (lo : Int32) (cd : Int32) (wd : Int32) (rm : Int32) (rg : Int32) (rr : Int32) (pl : Int32) (lm : Int32) (nx : Int32) (av : Int64) (sp : Int32) (le : Int32) (la : Int32) : Met l y_Mdl_clear (.code y_Mdl_clear b_Mdl_clear 1 none :: AW) ({ frames := 0, cells := 0, slots := 0, locals := 0 }) (va_Pc [.ref h0] (GG D k [(h0, .inr (9, [.ref pP, .ref pO, .int th, .int sz, .ref pB, .ref pS, .ref pK, .int op, .int rw, .int bg, .int lo, .int cd, .int wd, .int rm, .int rg, .int rr, .int pl, .int lm, .int nx, .long av, .int sp, .int le, .int la]))] zsz)) (qc_M_clear D k h0 pP pO pB pS pK th sz op rw bg lo cd wd rm rg rr pl lm nx av sp le la (va_A [(h0, .inr (9, [.ref pP, .ref pO, .int th, .int sz, .ref pB, .ref pS, .ref pK, .int op, .int rw, .int bg, .int lo, .int cd, .int wd, .int rm, .int rg, .int rr, .int pl, .int lm, .int nx, .long av, .int sp, .int le, .int la]))] zsz)) 0 0 (va_A [(h0, .inr (9, [.ref pP, .ref pO, .int th, .int sz, .ref pB, .ref pS, .ref pK, .int op, .int rw, .int bg, .int lo, .int cd, .int wd, .int rm, .int rg, .int rr, .int pl, .int lm, .int nx, .long av, .int sp, .int le, .int la]))] zsz) := by
  refine kMet (ws := [(h0, .inr (9, [.ref pP, .ref pO, .int th, .int sz, .ref pB, .ref pS, .ref pK, .int op, .int rw, .int bg, .int lo, .int cd, .int wd, .int rm, .int rg, .int rr, .int pl, .int lm, .int nx, .long av, .int sp, .int le, .int la]))]) (Qc := qc_M_clear D k h0 pP pO pB pS pK th sz op rw bg lo cd wd rm rg rr pl lm nx av sp le la) (by decide) (Nat.le_of_ble_eq_true rfl) (fun p e s m below meth c ls A H Cc hP hD hA hS hl => ?_)
  obtain ⟨hx, hb, hml, hr, hlk, hown, hts, hK, hE, hin⟩ := Cc
  have hl : lv_has ls 1 [(0, .ref h0)] := hl
  refine lv_aload_n hx hb d_Mdl_clear_0 rfl (lv_at hl 0 rfl) ?_
  refine lv_iconst (v := 0) hx hb d_Mdl_clear_1 (by decide) ?_
  refine va_put (D := D) (ci := 9) (v := .int 0) (ty := .int) (C := R_Mdl) (T := T_Mdl) (N := 23) hx hb hts inw_Mdl ty_Mdl tyok_Mdl nm_Mdl hown hK hP hD hS 0 rfl rfl 2 (by decide) (hts (.fieldLink R_Mdl 26 "LikelyBitsModel" "thrown" "I") mw_323) (fun _ h9 => h9) rfl (by decide +kernel) rfl rfl (Nat.le_of_ble_eq_true rfl) d_Mdl_clear_2 (fun H locs hP hD hS => ?_)
  have hP : va_P D vwCl [(h0, .inr (9, [.ref pP, .ref pO, .int 0, .int sz, .ref pB, .ref pS, .ref pK, .int op, .int rw, .int bg, .int lo, .int cd, .int wd, .int rm, .int rg, .int rr, .int pl, .int lm, .int nx, .long av, .int sp, .int le, .int la]))] H := hP
  have hD : va_D A [(h0, .inr (9, [.ref pP, .ref pO, .int 0, .int sz, .ref pB, .ref pS, .ref pK, .int op, .int rw, .int bg, .int lo, .int cd, .int wd, .int rm, .int rg, .int rr, .int pl, .int lm, .int nx, .long av, .int sp, .int le, .int la]))] := hD
  refine lv_aload_n hx hb d_Mdl_clear_5 rfl (lv_at hl 0 rfl) ?_
  refine lv_iconst (v := 0) hx hb d_Mdl_clear_6 (by decide) ?_
  refine va_put (D := D) (ci := 9) (v := .int 0) (ty := .int) (C := R_Mdl) (T := T_Mdl) (N := 23) hx hb hts inw_Mdl ty_Mdl tyok_Mdl nm_Mdl hown hK hP hD hS 0 rfl rfl 3 (by decide) (hts (.fieldLink R_Mdl 30 "LikelyBitsModel" "size" "I") mw_324) (fun _ h9 => h9) rfl (by decide +kernel) rfl rfl (Nat.le_of_ble_eq_true rfl) d_Mdl_clear_7 (fun H locs hP hD hS => ?_)
  have hP : va_P D vwCl [(h0, .inr (9, [.ref pP, .ref pO, .int 0, .int 0, .ref pB, .ref pS, .ref pK, .int op, .int rw, .int bg, .int lo, .int cd, .int wd, .int rm, .int rg, .int rr, .int pl, .int lm, .int nx, .long av, .int sp, .int le, .int la]))] H := hP
  have hD : va_D A [(h0, .inr (9, [.ref pP, .ref pO, .int 0, .int 0, .ref pB, .ref pS, .ref pK, .int op, .int rw, .int bg, .int lo, .int cd, .int wd, .int rm, .int rg, .int rr, .int pl, .int lm, .int nx, .long av, .int sp, .int le, .int la]))] := hD
  refine lv_aload_n hx hb d_Mdl_clear_10 rfl (lv_at hl 0 rfl) ?_
  refine lv_iconst (v := 0) hx hb d_Mdl_clear_11 (by decide) ?_
  refine va_put (D := D) (ci := 9) (v := .int 0) (ty := .boolean) (C := R_Mdl) (T := T_Mdl) (N := 23) hx hb hts inw_Mdl ty_Mdl tyok_Mdl nm_Mdl hown hK hP hD hS 0 rfl rfl 7 (by decide) (hts (.fieldLink R_Mdl 33 "LikelyBitsModel" "open" "Z") mw_325) (fun _ h9 => h9) rfl (by decide +kernel) rfl rfl (Nat.le_of_ble_eq_true rfl) d_Mdl_clear_12 (fun H locs hP hD hS => ?_)
  have hP : va_P D vwCl [(h0, .inr (9, [.ref pP, .ref pO, .int 0, .int 0, .ref pB, .ref pS, .ref pK, .int 0, .int rw, .int bg, .int lo, .int cd, .int wd, .int rm, .int rg, .int rr, .int pl, .int lm, .int nx, .long av, .int sp, .int le, .int la]))] H := hP
  have hD : va_D A [(h0, .inr (9, [.ref pP, .ref pO, .int 0, .int 0, .ref pB, .ref pS, .ref pK, .int 0, .int rw, .int bg, .int lo, .int cd, .int wd, .int rm, .int rg, .int rr, .int pl, .int lm, .int nx, .long av, .int sp, .int le, .int la]))] := hD
  refine lv_aload_n hx hb d_Mdl_clear_15 rfl (lv_at hl 0 rfl) ?_
  refine lv_iconst (v := 0) hx hb d_Mdl_clear_16 (by decide) ?_
  refine va_put (D := D) (ci := 9) (v := .int 0) (ty := .boolean) (C := R_Mdl) (T := T_Mdl) (N := 23) hx hb hts inw_Mdl ty_Mdl tyok_Mdl nm_Mdl hown hK hP hD hS 0 rfl rfl 14 (by decide) (hts (.fieldLink R_Mdl 37 "LikelyBitsModel" "reading" "Z") mw_326) (fun _ h9 => h9) rfl (by decide +kernel) rfl rfl (Nat.le_of_ble_eq_true rfl) d_Mdl_clear_17 (fun H locs hP hD hS => ?_)
  have hP : va_P D vwCl [(h0, .inr (9, [.ref pP, .ref pO, .int 0, .int 0, .ref pB, .ref pS, .ref pK, .int 0, .int rw, .int bg, .int lo, .int cd, .int wd, .int rm, .int 0, .int rr, .int pl, .int lm, .int nx, .long av, .int sp, .int le, .int la]))] H := hP
  have hD : va_D A [(h0, .inr (9, [.ref pP, .ref pO, .int 0, .int 0, .ref pB, .ref pS, .ref pK, .int 0, .int rw, .int bg, .int lo, .int cd, .int wd, .int rm, .int 0, .int rr, .int pl, .int lm, .int nx, .long av, .int sp, .int le, .int la]))] := hD
  exact krv (wo := wo_M_clear k h0 pP pO pB pS pK th sz op rw bg lo cd wd rm rg rr pl lm nx av sp le la) hx hb hr hlk hP hD hS () () trivial trivial [0] rfl (by decide) (Nat.le_of_ble_eq_true rfl) (Nat.le_of_ble_eq_true rfl) d_Mdl_clear_20

set_option maxHeartbeats 1000000 in
set_option maxRecDepth 100000 in
theorem c_M_nextOf (l : Launch) (hl9 : l.stackTraces = false) (D : va_G) (k : gK) (x : Int32) : Met l y_Mdl_nextOf (.code y_Mdl_nextOf b_Mdl_nextOf 1 (some .int) :: AW) { frames := 0, cells := 0, slots := 0, locals := 0 } (va_Pc [.int x] (GR D k [])) (va_Qi (fun r (_ : Unit) => r = nxo x) (fun _ _ => True) (fun _ => False)) 0 0 (fun _ => False) := by
  refine kMetR (ws := []) (by decide) (Nat.le_of_ble_eq_true rfl) (fun p e s m below meth c ls H Cc hP hS hl => ?_)
  obtain ⟨hx, hb, hml, hr, hlk, hown, hts, hK, hE, hin⟩ := Cc
  have hl : lv_has ls 1 [(0, .int x)] := hl
  refine lv_iload_n hx hb d_Mdl_nextOf_0 rfl (lv_at hl 0 rfl) ?_
  refine lv_iconst (v := 5) hx hb d_Mdl_nextOf_1 (by decide) ?_
  refine lv_icmp_ne (tgt := 10) hx hb d_Mdl_nextOf_2 (by decide) (fun c1 => ?_) (fun c1 => ?_)
  · refine lv_iload_n hx hb d_Mdl_nextOf_10 rfl (lv_at hl 0 rfl) ?_
    refine lv_bipush (v := 13) hx hb d_Mdl_nextOf_11 (by decide) ?_
    refine lv_icmp_ne (tgt := 21) hx hb d_Mdl_nextOf_13 (by decide) (fun c2 => ?_) (fun c2 => ?_)
    · refine lv_iload_n hx hb d_Mdl_nextOf_21 rfl (lv_at hl 0 rfl) ?_
      refine lv_bipush (v := 45) hx hb d_Mdl_nextOf_22 (by decide) ?_
      refine lv_icmp_eq (tgt := 33) hx hb d_Mdl_nextOf_24 (by decide) (fun c3 => ?_) (fun c3 => ?_)
      · refine lv_iload_n hx hb d_Mdl_nextOf_33 rfl (lv_at hl 0 rfl) ?_
        refine lv_goto (tgt := 40) hx hb d_Mdl_nextOf_34 (by decide) ?_
        exact koi hx hb hr hlk hS (by simp [nxo, c1, c2, c3]) (Nat.le_of_ble_eq_true rfl) (Nat.le_of_ble_eq_true rfl) d_Mdl_nextOf_40
      · refine lv_iload_n hx hb d_Mdl_nextOf_27 rfl (lv_at hl 0 rfl) ?_
        refine lv_bipush (v := 46) hx hb d_Mdl_nextOf_28 (by decide) ?_
        refine lv_icmp_ne (tgt := 37) hx hb d_Mdl_nextOf_30 (by decide) (fun c4 => ?_) (fun c4 => ?_)
        · refine lv_iload_n hx hb d_Mdl_nextOf_37 rfl (lv_at hl 0 rfl) ?_
          refine lv_iconst (v := 1) hx hb d_Mdl_nextOf_38 (by decide) ?_
          refine lv_iadd hx hb d_Mdl_nextOf_39 ?_
          exact koi hx hb hr hlk hS (by simp [nxo, c1, c2, c3, c4]) (Nat.le_of_ble_eq_true rfl) (Nat.le_of_ble_eq_true rfl) d_Mdl_nextOf_40
        · refine lv_iload_n hx hb d_Mdl_nextOf_33 rfl (lv_at hl 0 rfl) ?_
          refine lv_goto (tgt := 40) hx hb d_Mdl_nextOf_34 (by decide) ?_
          exact koi hx hb hr hlk hS (by simp [nxo, c1, c2, c3, c4]) (Nat.le_of_ble_eq_true rfl) (Nat.le_of_ble_eq_true rfl) d_Mdl_nextOf_40
    · refine lv_bipush (v := 29) hx hb d_Mdl_nextOf_16 (by decide) ?_
      refine lv_goto (tgt := 40) hx hb d_Mdl_nextOf_18 (by decide) ?_
      exact koi hx hb hr hlk hS (by simp [nxo, c1, c2]) (Nat.le_of_ble_eq_true rfl) (Nat.le_of_ble_eq_true rfl) d_Mdl_nextOf_40
  · refine lv_bipush (v := 38) hx hb d_Mdl_nextOf_5 (by decide) ?_
    refine lv_goto (tgt := 40) hx hb d_Mdl_nextOf_7 (by decide) ?_
    exact koi hx hb hr hlk hS (by simp [nxo, c1]) (Nat.le_of_ble_eq_true rfl) (Nat.le_of_ble_eq_true rfl) d_Mdl_nextOf_40

set_option maxHeartbeats 1000000 in
set_option maxRecDepth 100000 in
theorem c_M_hasLast (l : Launch) (hl9 : l.stackTraces = false) (D : va_G) (k : gK) (h0 : Nat) (pP : Nat) (pO : Nat) (pB : Nat) (pS : Nat) (pK : Nat) (th : Int32) (sz : Int32) (op : Int32) (rw : Int32) (bg : Int32) (lo : Int32) (cd : Int32) (wd : Int32) (rm : Int32) (rg : Int32) (rr : Int32) (pl : Int32) (lm : Int32) (nx : Int32) (av : Int64) (sp : Int32) (le : Int32) (la : Int32) : Met l y_Mdl_hasLast (.code y_Mdl_hasLast b_Mdl_hasLast 1 (some .boolean) :: AW) { frames := 0, cells := 0, slots := 0, locals := 0 } (va_Pc [.ref h0] (GR D k [(h0, .inr (9, [.ref pP, .ref pO, .int th, .int sz, .ref pB, .ref pS, .ref pK, .int op, .int rw, .int bg, .int lo, .int cd, .int wd, .int rm, .int rg, .int rr, .int pl, .int lm, .int nx, .long av, .int sp, .int le, .int la]))])) (va_Qi (fun r (_ : Unit) => r = mhl sz bg) (fun _ _ => True) (fun _ => False)) 0 0 (fun _ => False) := by
  refine kMetR (ws := [(h0, .inr (9, [.ref pP, .ref pO, .int th, .int sz, .ref pB, .ref pS, .ref pK, .int op, .int rw, .int bg, .int lo, .int cd, .int wd, .int rm, .int rg, .int rr, .int pl, .int lm, .int nx, .long av, .int sp, .int le, .int la]))]) (by decide) (Nat.le_of_ble_eq_true rfl) (fun p e s m below meth c ls H Cc hP hS hl => ?_)
  obtain ⟨hx, hb, hml, hr, hlk, hown, hts, hK, hE, hin⟩ := Cc
  have hl : lv_has ls 1 [(0, .ref h0)] := hl
  refine lv_aload_n hx hb d_Mdl_hasLast_0 rfl (lv_at hl 0 rfl) ?_
  refine va_get (D := D) (ci := 9) (v := .int sz) (C := R_Mdl) (T := T_Mdl) (N := 23) hx hb hts inw_Mdl hown hK hP 0 rfl rfl 3 (by decide) (hts (.fieldLink R_Mdl 30 "LikelyBitsModel" "size" "I") mw_324) (fun _ h9 => h9) rfl d_Mdl_hasLast_1 ?_
  refine lv_aload_n hx hb d_Mdl_hasLast_4 rfl (lv_at hl 0 rfl) ?_
  refine va_get (D := D) (ci := 9) (v := .int bg) (C := R_Mdl) (T := T_Mdl) (N := 23) hx hb hts inw_Mdl hown hK hP 0 rfl rfl 9 (by decide) (hts (.fieldLink R_Mdl 53 "LikelyBitsModel" "begin" "I") mw_327) (fun _ h9 => h9) rfl d_Mdl_hasLast_5 ?_
  refine lv_icmp_le (tgt := 15) hx hb d_Mdl_hasLast_8 (by decide) (fun c1 => ?_) (fun c1 => ?_)
  · refine lv_iconst (v := 0) hx hb d_Mdl_hasLast_15 (by decide) ?_
    exact koz hx hb hr hlk hS (Or.inl rfl) (by simp [mhl, c1]) (Nat.le_of_ble_eq_true rfl) (Nat.le_of_ble_eq_true rfl) d_Mdl_hasLast_16
  · refine lv_iconst (v := 1) hx hb d_Mdl_hasLast_11 (by decide) ?_
    refine lv_goto (tgt := 16) hx hb d_Mdl_hasLast_12 (by decide) ?_
    exact koz hx hb hr hlk hS (Or.inr rfl) (by simp [mhl, c1]) (Nat.le_of_ble_eq_true rfl) (Nat.le_of_ble_eq_true rfl) d_Mdl_hasLast_16

set_option maxHeartbeats 1000000 in
set_option maxRecDepth 100000 in
theorem c_M_takes (l : Launch) (hl9 : l.stackTraces = false) (D : va_G) (k : gK) (h0 pB : Nat) (pP : Nat) (pO : Nat) (pS : Nat) (pK : Nat) (th : Int32) (sz : Int32) (op : Int32) (rw : Int32) (bg : Int32) (lo : Int32) (cd : Int32) (wd : Int32) (rm : Int32) (rg : Int32) (rr : Int32) (pl : Int32) (lm : Int32) (nx : Int32) (av : Int64) (sp : Int32) (le : Int32) (la : Int32) (B : Nat → Int32) (L : List Int32) (hM : row_ok 65536 B sz L) (hbg : ¬ bg < 0) : Met l y_Mdl_takes (.code y_Mdl_takes b_Mdl_takes 1 (some .boolean) :: AW) { frames := 1, cells := 0, slots := 0, locals := 20 } (va_Pc [.ref h0] (GR D k [(h0, .inr (9, [.ref pP, .ref pO, .int th, .int sz, .ref pB, .ref pS, .ref pK, .int op, .int rw, .int bg, .int lo, .int cd, .int wd, .int rm, .int rg, .int rr, .int pl, .int lm, .int nx, .long av, .int sp, .int le, .int la])), (pB, .inl (k.1, 65536, .inl B))])) (va_Qi (fun r (_ : Unit) => r = mtk L bg) (fun _ _ => True) (fun _ => False)) 0 0 (fun _ => False) := by
  refine kMetR (ws := [(h0, .inr (9, [.ref pP, .ref pO, .int th, .int sz, .ref pB, .ref pS, .ref pK, .int op, .int rw, .int bg, .int lo, .int cd, .int wd, .int rm, .int rg, .int rr, .int pl, .int lm, .int nx, .long av, .int sp, .int le, .int la])), (pB, .inl (k.1, 65536, .inl B))]) (by decide) (Nat.le_of_ble_eq_true rfl) (fun p e s m below meth c ls H Cc hP hS hl => ?_)
  obtain ⟨hx, hb, hml, hr, hlk, hown, hts, hK, hE, hin⟩ := Cc
  have hl : lv_has ls 1 [(0, .ref h0)] := hl
  refine lv_aload_n hx hb d_Mdl_takes_0 rfl (lv_at hl 0 rfl) ?_
  refine kqi (va_runV (As := []) (rest := []) ⟨hx, hb, hml, hown, hts⟩ (c_M_hasLast l hl9 D k h0 pP pO pB pS pK th sz op rw bg lo cd wd rm rg rr pl lm nx av sp le la ) (cwV 0 hts (gV mw_328 mw_329 mw_330 mw_331 mw_332) rfl rfl rfl (by decide +kernel) ⟨(Nat.le_of_ble_eq_true rfl), (Nat.le_of_ble_eq_true rfl)⟩) (kRecv (q := (R_Mdl, T_Mdl, 23)) (q0 := 0) (ci := 9) hK hP rfl rfl (kPreR (wc := [(h0, .inr (9, [.ref pP, .ref pO, .int th, .int sz, .ref pB, .ref pS, .ref pK, .int op, .int rw, .int bg, .int lo, .int cd, .int wd, .int rm, .int rg, .int rr, .int pl, .int lm, .int nx, .long av, .int sp, .int le, .int la]))]) hE hK hP hS [0] rfl)) rfl rfl hl.1 rfl (lv_room (Nat.le_of_ble_eq_true rfl)) d_Mdl_takes_1 ⟨(Nat.le_of_ble_eq_true rfl), (Nat.le_of_ble_eq_true rfl)⟩) hP hS (fun r1 H locs hw hP hS => ?_)
  replace hw := hw.symm
  subst hw
  refine lv_if_eq (tgt := 28) hx hb d_Mdl_takes_4 (by decide) (fun c2 => ?_) (fun c2 => ?_)
  · refine lv_iconst (v := 0) hx hb d_Mdl_takes_28 (by decide) ?_
    exact koz hx hb hr hlk hS (Or.inl rfl) (by rw [mtk, if_pos (hM.1 ▸ mhl_eq c2)]) (Nat.le_of_ble_eq_true rfl) (Nat.le_of_ble_eq_true rfl) d_Mdl_takes_29
  · refine lv_aload_n hx hb d_Mdl_takes_7 rfl (lv_at hl 0 rfl) ?_
    refine va_get (D := D) (ci := 9) (v := .ref pB) (C := R_Mdl) (T := T_Mdl) (N := 23) hx hb hts inw_Mdl hown hK hP 0 rfl rfl 4 (by decide) (hts (.fieldLink R_Mdl 17 "LikelyBitsModel" "bytes" "[I") mw_333) (fun _ h9 => h9) rfl d_Mdl_takes_8 ?_
    refine lv_aload_n hx hb d_Mdl_takes_11 rfl (lv_at hl 0 rfl) ?_
    refine va_get (D := D) (ci := 9) (v := .int sz) (C := R_Mdl) (T := T_Mdl) (N := 23) hx hb hts inw_Mdl hown hK hP 0 rfl rfl 3 (by decide) (hts (.fieldLink R_Mdl 30 "LikelyBitsModel" "size" "I") mw_324) (fun _ h9 => h9) rfl d_Mdl_takes_12 ?_
    refine lv_iconst (v := 1) hx hb d_Mdl_takes_15 (by decide) ?_
    refine lv_isub hx hb d_Mdl_takes_16 ?_
    refine va_iald hx hb hK hP 1 0 rfl rfl (m_lin hM hbg (mhl_ne c2)) d_Mdl_takes_17 ?_
    refine lv_sipush (v := 255) hx hb d_Mdl_takes_18 (by decide) ?_
    refine lv_icmp_ge (tgt := 28) hx hb d_Mdl_takes_21 (by decide) (fun c3 => ?_) (fun c3 => ?_)
    · refine lv_iconst (v := 0) hx hb d_Mdl_takes_28 (by decide) ?_
      exact koz hx hb hr hlk hS (Or.inl rfl) (by rw [m_lv hM hbg (mhl_ne c2)] at c3; rw [mtk, if_neg (hM.1 ▸ mhl_ne c2), if_pos c3]) (Nat.le_of_ble_eq_true rfl) (Nat.le_of_ble_eq_true rfl) d_Mdl_takes_29
    · refine lv_iconst (v := 1) hx hb d_Mdl_takes_24 (by decide) ?_
      refine lv_goto (tgt := 29) hx hb d_Mdl_takes_25 (by decide) ?_
      exact koz hx hb hr hlk hS (Or.inr rfl) (by rw [m_lv hM hbg (mhl_ne c2)] at c3; rw [mtk, if_neg (hM.1 ▸ mhl_ne c2), if_neg c3]) (Nat.le_of_ble_eq_true rfl) (Nat.le_of_ble_eq_true rfl) d_Mdl_takes_29

set_option maxHeartbeats 1000000 in
set_option maxRecDepth 100000 in
theorem c_M_carry (l : Launch) (hl9 : l.stackTraces = false) (D : va_G) (k : gK) (h0 : Nat) (pP : Nat) (pO : Nat) (pB : Nat) (pS : Nat) (pK : Nat) (th : Int32) (sz : Int32) (op : Int32) (rw : Int32) (bg : Int32) (lo : Int32) (cd : Int32) (wd : Int32) (rm : Int32) (rg : Int32) (rr : Int32) (pl : Int32) (lm : Int32) (nx : Int32) (av : Int64) (sp : Int32) (le : Int32) (la : Int32) : Met l y_Mdl_carry (.code y_Mdl_carry b_Mdl_carry 1 (some .int) :: AW) { frames := 0, cells := 0, slots := 0, locals := 0 } (va_Pc [.ref h0] (GR D k [(h0, .inr (9, [.ref pP, .ref pO, .int th, .int sz, .ref pB, .ref pS, .ref pK, .int op, .int rw, .int bg, .int lo, .int cd, .int wd, .int rm, .int rg, .int rr, .int pl, .int lm, .int nx, .long av, .int sp, .int le, .int la]))])) (va_Qi (fun r (_ : Unit) => r = mcy cd rm) (fun _ _ => True) (fun _ => False)) 0 0 (fun _ => False) := by
  refine kMetR (ws := [(h0, .inr (9, [.ref pP, .ref pO, .int th, .int sz, .ref pB, .ref pS, .ref pK, .int op, .int rw, .int bg, .int lo, .int cd, .int wd, .int rm, .int rg, .int rr, .int pl, .int lm, .int nx, .long av, .int sp, .int le, .int la]))]) (by decide) (Nat.le_of_ble_eq_true rfl) (fun p e s m below meth c ls H Cc hP hS hl => ?_)
  obtain ⟨hx, hb, hml, hr, hlk, hown, hts, hK, hE, hin⟩ := Cc
  have hl : lv_has ls 1 [(0, .ref h0)] := hl
  refine lv_aload_n hx hb d_Mdl_carry_0 rfl (lv_at hl 0 rfl) ?_
  refine va_get (D := D) (ci := 9) (v := .int cd) (C := R_Mdl) (T := T_Mdl) (N := 23) hx hb hts inw_Mdl hown hK hP 0 rfl rfl 11 (by decide) (hts (.fieldLink R_Mdl 60 "LikelyBitsModel" "carried" "Z") mw_334) (fun _ h9 => h9) rfl d_Mdl_carry_1 ?_
  refine lv_if_eq (tgt := 19) hx hb d_Mdl_carry_4 (by decide) (fun c1 => ?_) (fun c1 => ?_)
  · refine lv_iconst (v := 0) hx hb d_Mdl_carry_19 (by decide) ?_
    exact koi hx hb hr hlk hS (by simp [mcy, c1]) (Nat.le_of_ble_eq_true rfl) (Nat.le_of_ble_eq_true rfl) d_Mdl_carry_20
  · refine lv_iconst (v := 1) hx hb d_Mdl_carry_7 (by decide) ?_
    refine lv_bipush (v := 27) hx hb d_Mdl_carry_8 (by decide) ?_
    refine lv_aload_n hx hb d_Mdl_carry_10 rfl (lv_at hl 0 rfl) ?_
    refine va_get (D := D) (ci := 9) (v := .int rm) (C := R_Mdl) (T := T_Mdl) (N := 23) hx hb hts inw_Mdl hown hK hP 0 rfl rfl 13 (by decide) (hts (.fieldLink R_Mdl 63 "LikelyBitsModel" "room" "I") mw_335) (fun _ h9 => h9) rfl d_Mdl_carry_11 ?_
    refine lv_isub hx hb d_Mdl_carry_14 ?_
    refine lv_ishl hx hb d_Mdl_carry_15 ?_
    refine lv_goto (tgt := 20) hx hb d_Mdl_carry_16 (by decide) ?_
    exact koi hx hb hr hlk hS (by simp [mcy, c1]) (Nat.le_of_ble_eq_true rfl) (Nat.le_of_ble_eq_true rfl) d_Mdl_carry_20

def wo_M_keep (k : gK) (h0 pB : Nat) (pP : Nat) (pO : Nat) (pS : Nat) (pK : Nat) (th : Int32) (sz : Int32) (op : Int32) (rw : Int32) (bg : Int32) (lo : Int32) (cd : Int32) (wd : Int32) (rm : Int32) (rg : Int32) (rr : Int32) (pl : Int32) (lm : Int32) (nx : Int32) (av : Int64) (sp : Int32) (le : Int32) (la : Int32) (B : Nat → Int32) (L : List Int32) (x : Int32) (zz : Unit) (uu : Int32 × Int32) : va_W := match zz, uu with
  | _, (cd2, lo2) => [(h0, .inr (9, [.ref pP, .ref pO, .int th, .int sz, .ref pB, .ref pS, .ref pK, .int op, .int rw, .int bg, .int lo2, .int cd2, .int wd, .int rm, .int rg, .int rr, .int pl, .int lm, .int nx, .long av, .int sp, .int le, .int la])), (pB, .inl (k.1, 65536, .inl B))]
def ex_M_keep (k : gK) (h0 pB : Nat) (pP : Nat) (pO : Nat) (pS : Nat) (pK : Nat) (th : Int32) (sz : Int32) (op : Int32) (rw : Int32) (bg : Int32) (lo : Int32) (cd : Int32) (wd : Int32) (rm : Int32) (rg : Int32) (rr : Int32) (pl : Int32) (lm : Int32) (nx : Int32) (av : Int64) (sp : Int32) (le : Int32) (la : Int32) (B : Nat → Int32) (L : List Int32) (x : Int32) (zz : Unit) (uu : Int32 × Int32) : Prop := match zz, uu with
  | _, (cd2, lo2) => True
def po_M_keep (k : gK) (h0 pB : Nat) (pP : Nat) (pO : Nat) (pS : Nat) (pK : Nat) (th : Int32) (sz : Int32) (op : Int32) (rw : Int32) (bg : Int32) (lo : Int32) (cd : Int32) (wd : Int32) (rm : Int32) (rg : Int32) (rr : Int32) (pl : Int32) (lm : Int32) (nx : Int32) (av : Int64) (sp : Int32) (le : Int32) (la : Int32) (B : Nat → Int32) (L : List Int32) (x : Int32) (uu : Int32 × Int32) : Prop := match uu with
  | (cd2, lo2) => cd2 = mkc L bg rm x ∧ lo2 = x - mcy (mkc L bg rm x) rm
def qc_M_keep (D : va_G) (k : gK) (h0 pB : Nat) (pP : Nat) (pO : Nat) (pS : Nat) (pK : Nat) (th : Int32) (sz : Int32) (op : Int32) (rw : Int32) (bg : Int32) (lo : Int32) (cd : Int32) (wd : Int32) (rm : Int32) (rg : Int32) (rr : Int32) (pl : Int32) (lm : Int32) (nx : Int32) (av : Int64) (sp : Int32) (le : Int32) (la : Int32) (B : Nat → Int32) (L : List Int32) (x : Int32) (A : Nat → Prop) : Array Value → State → Outcome → State → Prop := va_Qv (po_M_keep k h0 pB pP pO pS pK th sz op rw bg lo cd wd rm rg rr pl lm nx av sp le la B L x) (fun uu t => ∃ zz, ex_M_keep k h0 pB pP pO pS pK th sz op rw bg lo cd wd rm rg rr pl lm nx av sp le la B L x zz uu ∧ GP D A (wo_M_keep k h0 pB pP pO pS pK th sz op rw bg lo cd wd rm rg rr pl lm nx av sp le la B L x zz uu) t) A
set_option maxHeartbeats 1000000 in
set_option maxRecDepth 100000 in
theorem c_M_keep (l : Launch) (hl9 : l.stackTraces = false) (D : va_G) (k : gK) (h0 pB : Nat) (zsz : Nat) (pP : Nat) (pO : Nat) (pS : Nat) (pK : Nat) (th : Int32) (sz : Int32) (op : Int32) (rw : Int32) (bg : Int32) (lo : Int32) (cd : Int32) (wd : Int32) (rm : Int32) (rg : Int32) (rr : Int32) (pl : Int32) (lm : Int32) (nx : Int32) (av : Int64) (sp : Int32) (le : Int32) (la : Int32) (B : Nat → Int32) (L : List Int32) (x : Int32) (hM : row_ok 65536 B sz L) (hbg : ¬ bg < 0) : Met l y_Mdl_keep (.code y_Mdl_keep b_Mdl_keep 2 none :: AW) ({ frames := 2, cells := 0, slots := 0, locals := 40 }) (va_Pc [.ref h0, .int x] (GG D k [(h0, .inr (9, [.ref pP, .ref pO, .int th, .int sz, .ref pB, .ref pS, .ref pK, .int op, .int rw, .int bg, .int lo, .int cd, .int wd, .int rm, .int rg, .int rr, .int pl, .int lm, .int nx, .long av, .int sp, .int le, .int la])), (pB, .inl (k.1, 65536, .inl B))] zsz)) (qc_M_keep D k h0 pB pP pO pS pK th sz op rw bg lo cd wd rm rg rr pl lm nx av sp le la B L x (va_A [(h0, .inr (9, [.ref pP, .ref pO, .int th, .int sz, .ref pB, .ref pS, .ref pK, .int op, .int rw, .int bg, .int lo, .int cd, .int wd, .int rm, .int rg, .int rr, .int pl, .int lm, .int nx, .long av, .int sp, .int le, .int la])), (pB, .inl (k.1, 65536, .inl B))] zsz)) 0 0 (va_A [(h0, .inr (9, [.ref pP, .ref pO, .int th, .int sz, .ref pB, .ref pS, .ref pK, .int op, .int rw, .int bg, .int lo, .int cd, .int wd, .int rm, .int rg, .int rr, .int pl, .int lm, .int nx, .long av, .int sp, .int le, .int la])), (pB, .inl (k.1, 65536, .inl B))] zsz) := by
  refine kMet (ws := [(h0, .inr (9, [.ref pP, .ref pO, .int th, .int sz, .ref pB, .ref pS, .ref pK, .int op, .int rw, .int bg, .int lo, .int cd, .int wd, .int rm, .int rg, .int rr, .int pl, .int lm, .int nx, .long av, .int sp, .int le, .int la])), (pB, .inl (k.1, 65536, .inl B))]) (Qc := qc_M_keep D k h0 pB pP pO pS pK th sz op rw bg lo cd wd rm rg rr pl lm nx av sp le la B L x) (by decide) (Nat.le_of_ble_eq_true rfl) (fun p e s m below meth c ls A H Cc hP hD hA hS hl => ?_)
  obtain ⟨hx, hb, hml, hr, hlk, hown, hts, hK, hE, hin⟩ := Cc
  have hl : lv_has ls 2 [(0, .ref h0), (1, .int x)] := hl
  refine lv_aload_n hx hb d_Mdl_keep_0 rfl (lv_at hl 0 rfl) ?_
  refine lv_aload_n hx hb d_Mdl_keep_1 rfl (lv_at hl 0 rfl) ?_
  refine kqi (va_runV (As := []) (rest := [.ref h0]) ⟨hx, hb, hml, hown, hts⟩ (c_M_takes l hl9 D k h0 pB pP pO pS pK th sz op rw bg lo cd wd rm rg rr pl lm nx av sp le la B L (by assumption) (by assumption)) (cwV 0 hts (gV mw_336 mw_337 mw_338 mw_331 mw_339) rfl rfl rfl (by decide +kernel) ⟨(Nat.le_of_ble_eq_true rfl), (Nat.le_of_ble_eq_true rfl)⟩) (kRecv (q := (R_Mdl, T_Mdl, 23)) (q0 := 0) (ci := 9) hK hP rfl rfl (kPreR (wc := [(h0, .inr (9, [.ref pP, .ref pO, .int th, .int sz, .ref pB, .ref pS, .ref pK, .int op, .int rw, .int bg, .int lo, .int cd, .int wd, .int rm, .int rg, .int rr, .int pl, .int lm, .int nx, .long av, .int sp, .int le, .int la])), (pB, .inl (k.1, 65536, .inl B))]) hE hK hP hS [0, 1] rfl)) rfl rfl hl.1 rfl (lv_room (Nat.le_of_ble_eq_true rfl)) d_Mdl_keep_2 ⟨(Nat.le_of_ble_eq_true rfl), (Nat.le_of_ble_eq_true rfl)⟩) hP hS (fun r1 H locs hw hP hS => ?_)
  replace hw := hw.symm
  subst hw
  refine lv_if_eq (tgt := 25) hx hb d_Mdl_keep_5 (by decide) (fun c2 => ?_) (fun c2 => ?_)
  · refine lv_iconst (v := 0) hx hb d_Mdl_keep_25 (by decide) ?_
    refine va_put (D := D) (ci := 9) (v := .int 0) (ty := .boolean) (C := R_Mdl) (T := T_Mdl) (N := 23) hx hb hts inw_Mdl ty_Mdl tyok_Mdl nm_Mdl hown hK hP hD hS 0 rfl rfl 11 (by decide) (hts (.fieldLink R_Mdl 60 "LikelyBitsModel" "carried" "Z") mw_334) (fun _ h9 => h9) rfl (by decide +kernel) rfl rfl (Nat.le_of_ble_eq_true rfl) d_Mdl_keep_26 (fun H locs hP hD hS => ?_)
    have hP : va_P D vwCl [(h0, .inr (9, [.ref pP, .ref pO, .int th, .int sz, .ref pB, .ref pS, .ref pK, .int op, .int rw, .int bg, .int lo, .int 0, .int wd, .int rm, .int rg, .int rr, .int pl, .int lm, .int nx, .long av, .int sp, .int le, .int la])), (pB, .inl (k.1, 65536, .inl B))] H := hP
    have hD : va_D A [(h0, .inr (9, [.ref pP, .ref pO, .int th, .int sz, .ref pB, .ref pS, .ref pK, .int op, .int rw, .int bg, .int lo, .int 0, .int wd, .int rm, .int rg, .int rr, .int pl, .int lm, .int nx, .long av, .int sp, .int le, .int la])), (pB, .inl (k.1, 65536, .inl B))] := hD
    refine lv_aload_n hx hb d_Mdl_keep_29 rfl (lv_at hl 0 rfl) ?_
    refine lv_iload_n hx hb d_Mdl_keep_30 rfl (lv_at hl 1 rfl) ?_
    refine lv_aload_n hx hb d_Mdl_keep_31 rfl (lv_at hl 0 rfl) ?_
    refine kqi (va_runV (As := []) (rest := [.int x, .ref h0]) ⟨hx, hb, hml, hown, hts⟩ (c_M_carry l hl9 D k h0 pP pO pB pS pK th sz op rw bg lo 0 wd rm rg rr pl lm nx av sp le la ) (cwV 0 hts (gV mw_340 mw_341 mw_342 mw_331 mw_343) rfl rfl rfl (by decide +kernel) ⟨(Nat.le_of_ble_eq_true rfl), (Nat.le_of_ble_eq_true rfl)⟩) (kRecv (q := (R_Mdl, T_Mdl, 23)) (q0 := 0) (ci := 9) hK hP rfl rfl (kPreR (wc := [(h0, .inr (9, [.ref pP, .ref pO, .int th, .int sz, .ref pB, .ref pS, .ref pK, .int op, .int rw, .int bg, .int lo, .int 0, .int wd, .int rm, .int rg, .int rr, .int pl, .int lm, .int nx, .long av, .int sp, .int le, .int la]))]) hE hK hP hS [0] rfl)) rfl rfl hl.1 rfl (lv_room (Nat.le_of_ble_eq_true rfl)) d_Mdl_keep_32 ⟨(Nat.le_of_ble_eq_true rfl), (Nat.le_of_ble_eq_true rfl)⟩) hP hS (fun r3 H locs hw hP hS => ?_)
    replace hw := hw.symm
    subst hw
    refine lv_isub hx hb d_Mdl_keep_35 ?_
    refine lv_topi (fun x4 ex4 => ?_)
    refine va_put (D := D) (ci := 9) (v := .int x4) (ty := .int) (C := R_Mdl) (T := T_Mdl) (N := 23) hx hb hts inw_Mdl ty_Mdl tyok_Mdl nm_Mdl hown hK hP hD hS 0 rfl rfl 10 (by decide) (hts (.fieldLink R_Mdl 73 "LikelyBitsModel" "low" "I") mw_344) (fun _ h9 => h9) rfl (by decide +kernel) rfl rfl (Nat.le_of_ble_eq_true rfl) d_Mdl_keep_36 (fun H locs hP hD hS => ?_)
    have hP : va_P D vwCl [(h0, .inr (9, [.ref pP, .ref pO, .int th, .int sz, .ref pB, .ref pS, .ref pK, .int op, .int rw, .int bg, .int x4, .int 0, .int wd, .int rm, .int rg, .int rr, .int pl, .int lm, .int nx, .long av, .int sp, .int le, .int la])), (pB, .inl (k.1, 65536, .inl B))] H := hP
    have hD : va_D A [(h0, .inr (9, [.ref pP, .ref pO, .int th, .int sz, .ref pB, .ref pS, .ref pK, .int op, .int rw, .int bg, .int x4, .int 0, .int wd, .int rm, .int rg, .int rr, .int pl, .int lm, .int nx, .long av, .int sp, .int le, .int la])), (pB, .inl (k.1, 65536, .inl B))] := hD
    exact krv (wo := wo_M_keep k h0 pB pP pO pS pK th sz op rw bg lo cd wd rm rg rr pl lm nx av sp le la B L x) hx hb hr hlk hP hD hS (0, x4) () (by subst ex4; simp [po_M_keep, mkc, c2]) trivial [0, 1] rfl (by decide) (Nat.le_of_ble_eq_true rfl) (Nat.le_of_ble_eq_true rfl) d_Mdl_keep_39
  · refine lv_iload_n hx hb d_Mdl_keep_8 rfl (lv_at hl 1 rfl) ?_
    refine lv_iconst (v := 1) hx hb d_Mdl_keep_9 (by decide) ?_
    refine lv_bipush (v := 27) hx hb d_Mdl_keep_10 (by decide) ?_
    refine lv_aload_n hx hb d_Mdl_keep_12 rfl (lv_at hl 0 rfl) ?_
    refine va_get (D := D) (ci := 9) (v := .int rm) (C := R_Mdl) (T := T_Mdl) (N := 23) hx hb hts inw_Mdl hown hK hP 0 rfl rfl 13 (by decide) (hts (.fieldLink R_Mdl 63 "LikelyBitsModel" "room" "I") mw_335) (fun _ h9 => h9) rfl d_Mdl_keep_13 ?_
    refine lv_isub hx hb d_Mdl_keep_16 ?_
    refine lv_ishl hx hb d_Mdl_keep_17 ?_
    refine lv_icmp_lt (tgt := 25) hx hb d_Mdl_keep_18 (by decide) (fun c5 => ?_) (fun c5 => ?_)
    · refine lv_iconst (v := 0) hx hb d_Mdl_keep_25 (by decide) ?_
      refine va_put (D := D) (ci := 9) (v := .int 0) (ty := .boolean) (C := R_Mdl) (T := T_Mdl) (N := 23) hx hb hts inw_Mdl ty_Mdl tyok_Mdl nm_Mdl hown hK hP hD hS 0 rfl rfl 11 (by decide) (hts (.fieldLink R_Mdl 60 "LikelyBitsModel" "carried" "Z") mw_334) (fun _ h9 => h9) rfl (by decide +kernel) rfl rfl (Nat.le_of_ble_eq_true rfl) d_Mdl_keep_26 (fun H locs hP hD hS => ?_)
      have hP : va_P D vwCl [(h0, .inr (9, [.ref pP, .ref pO, .int th, .int sz, .ref pB, .ref pS, .ref pK, .int op, .int rw, .int bg, .int lo, .int 0, .int wd, .int rm, .int rg, .int rr, .int pl, .int lm, .int nx, .long av, .int sp, .int le, .int la])), (pB, .inl (k.1, 65536, .inl B))] H := hP
      have hD : va_D A [(h0, .inr (9, [.ref pP, .ref pO, .int th, .int sz, .ref pB, .ref pS, .ref pK, .int op, .int rw, .int bg, .int lo, .int 0, .int wd, .int rm, .int rg, .int rr, .int pl, .int lm, .int nx, .long av, .int sp, .int le, .int la])), (pB, .inl (k.1, 65536, .inl B))] := hD
      refine lv_aload_n hx hb d_Mdl_keep_29 rfl (lv_at hl 0 rfl) ?_
      refine lv_iload_n hx hb d_Mdl_keep_30 rfl (lv_at hl 1 rfl) ?_
      refine lv_aload_n hx hb d_Mdl_keep_31 rfl (lv_at hl 0 rfl) ?_
      refine kqi (va_runV (As := []) (rest := [.int x, .ref h0]) ⟨hx, hb, hml, hown, hts⟩ (c_M_carry l hl9 D k h0 pP pO pB pS pK th sz op rw bg lo 0 wd rm rg rr pl lm nx av sp le la ) (cwV 0 hts (gV mw_340 mw_341 mw_342 mw_331 mw_343) rfl rfl rfl (by decide +kernel) ⟨(Nat.le_of_ble_eq_true rfl), (Nat.le_of_ble_eq_true rfl)⟩) (kRecv (q := (R_Mdl, T_Mdl, 23)) (q0 := 0) (ci := 9) hK hP rfl rfl (kPreR (wc := [(h0, .inr (9, [.ref pP, .ref pO, .int th, .int sz, .ref pB, .ref pS, .ref pK, .int op, .int rw, .int bg, .int lo, .int 0, .int wd, .int rm, .int rg, .int rr, .int pl, .int lm, .int nx, .long av, .int sp, .int le, .int la]))]) hE hK hP hS [0] rfl)) rfl rfl hl.1 rfl (lv_room (Nat.le_of_ble_eq_true rfl)) d_Mdl_keep_32 ⟨(Nat.le_of_ble_eq_true rfl), (Nat.le_of_ble_eq_true rfl)⟩) hP hS (fun r6 H locs hw hP hS => ?_)
      replace hw := hw.symm
      subst hw
      refine lv_isub hx hb d_Mdl_keep_35 ?_
      refine lv_topi (fun x7 ex7 => ?_)
      refine va_put (D := D) (ci := 9) (v := .int x7) (ty := .int) (C := R_Mdl) (T := T_Mdl) (N := 23) hx hb hts inw_Mdl ty_Mdl tyok_Mdl nm_Mdl hown hK hP hD hS 0 rfl rfl 10 (by decide) (hts (.fieldLink R_Mdl 73 "LikelyBitsModel" "low" "I") mw_344) (fun _ h9 => h9) rfl (by decide +kernel) rfl rfl (Nat.le_of_ble_eq_true rfl) d_Mdl_keep_36 (fun H locs hP hD hS => ?_)
      have hP : va_P D vwCl [(h0, .inr (9, [.ref pP, .ref pO, .int th, .int sz, .ref pB, .ref pS, .ref pK, .int op, .int rw, .int bg, .int x7, .int 0, .int wd, .int rm, .int rg, .int rr, .int pl, .int lm, .int nx, .long av, .int sp, .int le, .int la])), (pB, .inl (k.1, 65536, .inl B))] H := hP
      have hD : va_D A [(h0, .inr (9, [.ref pP, .ref pO, .int th, .int sz, .ref pB, .ref pS, .ref pK, .int op, .int rw, .int bg, .int x7, .int 0, .int wd, .int rm, .int rg, .int rr, .int pl, .int lm, .int nx, .long av, .int sp, .int le, .int la])), (pB, .inl (k.1, 65536, .inl B))] := hD
      exact krv (wo := wo_M_keep k h0 pB pP pO pS pK th sz op rw bg lo cd wd rm rg rr pl lm nx av sp le la B L x) hx hb hr hlk hP hD hS (0, x7) () (by subst ex7; simp [po_M_keep, mkc, c2, c5]) trivial [0, 1] rfl (by decide) (Nat.le_of_ble_eq_true rfl) (Nat.le_of_ble_eq_true rfl) d_Mdl_keep_39
    · refine lv_iconst (v := 1) hx hb d_Mdl_keep_21 (by decide) ?_
      refine lv_goto (tgt := 26) hx hb d_Mdl_keep_22 (by decide) ?_
      refine va_put (D := D) (ci := 9) (v := .int 1) (ty := .boolean) (C := R_Mdl) (T := T_Mdl) (N := 23) hx hb hts inw_Mdl ty_Mdl tyok_Mdl nm_Mdl hown hK hP hD hS 0 rfl rfl 11 (by decide) (hts (.fieldLink R_Mdl 60 "LikelyBitsModel" "carried" "Z") mw_334) (fun _ h9 => h9) rfl (by decide +kernel) rfl rfl (Nat.le_of_ble_eq_true rfl) d_Mdl_keep_26 (fun H locs hP hD hS => ?_)
      have hP : va_P D vwCl [(h0, .inr (9, [.ref pP, .ref pO, .int th, .int sz, .ref pB, .ref pS, .ref pK, .int op, .int rw, .int bg, .int lo, .int 1, .int wd, .int rm, .int rg, .int rr, .int pl, .int lm, .int nx, .long av, .int sp, .int le, .int la])), (pB, .inl (k.1, 65536, .inl B))] H := hP
      have hD : va_D A [(h0, .inr (9, [.ref pP, .ref pO, .int th, .int sz, .ref pB, .ref pS, .ref pK, .int op, .int rw, .int bg, .int lo, .int 1, .int wd, .int rm, .int rg, .int rr, .int pl, .int lm, .int nx, .long av, .int sp, .int le, .int la])), (pB, .inl (k.1, 65536, .inl B))] := hD
      refine lv_aload_n hx hb d_Mdl_keep_29 rfl (lv_at hl 0 rfl) ?_
      refine lv_iload_n hx hb d_Mdl_keep_30 rfl (lv_at hl 1 rfl) ?_
      refine lv_aload_n hx hb d_Mdl_keep_31 rfl (lv_at hl 0 rfl) ?_
      refine kqi (va_runV (As := []) (rest := [.int x, .ref h0]) ⟨hx, hb, hml, hown, hts⟩ (c_M_carry l hl9 D k h0 pP pO pB pS pK th sz op rw bg lo 1 wd rm rg rr pl lm nx av sp le la ) (cwV 0 hts (gV mw_340 mw_341 mw_342 mw_331 mw_343) rfl rfl rfl (by decide +kernel) ⟨(Nat.le_of_ble_eq_true rfl), (Nat.le_of_ble_eq_true rfl)⟩) (kRecv (q := (R_Mdl, T_Mdl, 23)) (q0 := 0) (ci := 9) hK hP rfl rfl (kPreR (wc := [(h0, .inr (9, [.ref pP, .ref pO, .int th, .int sz, .ref pB, .ref pS, .ref pK, .int op, .int rw, .int bg, .int lo, .int 1, .int wd, .int rm, .int rg, .int rr, .int pl, .int lm, .int nx, .long av, .int sp, .int le, .int la]))]) hE hK hP hS [0] rfl)) rfl rfl hl.1 rfl (lv_room (Nat.le_of_ble_eq_true rfl)) d_Mdl_keep_32 ⟨(Nat.le_of_ble_eq_true rfl), (Nat.le_of_ble_eq_true rfl)⟩) hP hS (fun r8 H locs hw hP hS => ?_)
      replace hw := hw.symm
      subst hw
      refine lv_isub hx hb d_Mdl_keep_35 ?_
      refine lv_topi (fun x9 ex9 => ?_)
      refine va_put (D := D) (ci := 9) (v := .int x9) (ty := .int) (C := R_Mdl) (T := T_Mdl) (N := 23) hx hb hts inw_Mdl ty_Mdl tyok_Mdl nm_Mdl hown hK hP hD hS 0 rfl rfl 10 (by decide) (hts (.fieldLink R_Mdl 73 "LikelyBitsModel" "low" "I") mw_344) (fun _ h9 => h9) rfl (by decide +kernel) rfl rfl (Nat.le_of_ble_eq_true rfl) d_Mdl_keep_36 (fun H locs hP hD hS => ?_)
      have hP : va_P D vwCl [(h0, .inr (9, [.ref pP, .ref pO, .int th, .int sz, .ref pB, .ref pS, .ref pK, .int op, .int rw, .int bg, .int x9, .int 1, .int wd, .int rm, .int rg, .int rr, .int pl, .int lm, .int nx, .long av, .int sp, .int le, .int la])), (pB, .inl (k.1, 65536, .inl B))] H := hP
      have hD : va_D A [(h0, .inr (9, [.ref pP, .ref pO, .int th, .int sz, .ref pB, .ref pS, .ref pK, .int op, .int rw, .int bg, .int x9, .int 1, .int wd, .int rm, .int rg, .int rr, .int pl, .int lm, .int nx, .long av, .int sp, .int le, .int la])), (pB, .inl (k.1, 65536, .inl B))] := hD
      exact krv (wo := wo_M_keep k h0 pB pP pO pS pK th sz op rw bg lo cd wd rm rg rr pl lm nx av sp le la B L x) hx hb hr hlk hP hD hS (1, x9) () (by subst ex9; simp [po_M_keep, mkc, c2, c5]) trivial [0, 1] rfl (by decide) (Nat.le_of_ble_eq_true rfl) (Nat.le_of_ble_eq_true rfl) d_Mdl_keep_39

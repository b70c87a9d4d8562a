set_option maxRecDepth 20000 in
theorem mw_345 : (Cond.methodLink R_Mdl 76 y_Mdl_byteOut) ∈ AW := inAW (List.mem_append_right _ (show _ ∈ tables_1_1 ++ (tables_1_2 ++ (tables_1_3 ++ tables_1_4)) from (List.mem_append_right _ (List.mem_append_right _ (List.mem_append_right _ (List.mem_of_getElem? (i := 78) rfl)))))) rfl
set_option maxRecDepth 20000 in
theorem mw_346 : (Cond.instanceMethod y_Mdl_byteOut) ∈ AW := inAW (List.mem_append_right _ (show _ ∈ tables_1_1 ++ (tables_1_2 ++ (tables_1_3 ++ tables_1_4)) from (List.mem_append_right _ (List.mem_append_right _ (List.mem_append_right _ (List.mem_of_getElem? (i := 80) rfl)))))) rfl
set_option maxRecDepth 20000 in
theorem mw_347 : (Cond.selects R_Mdl y_Mdl_byteOut y_Mdl_byteOut) ∈ AW := inAW (List.mem_append_left _ (List.mem_of_getElem? (i := 18) rfl)) rfl
set_option maxRecDepth 20000 in
theorem mw_348 : (Cond.code y_Mdl_byteOut b_Mdl_byteOut 2 none) ∈ AW := inAW (List.mem_append_right _ (show _ ∈ tables_1_1 ++ (tables_1_2 ++ (tables_1_3 ++ tables_1_4)) from (List.mem_append_right _ (List.mem_append_right _ (List.mem_append_right _ (List.mem_of_getElem? (i := 81) rfl)))))) rfl
set_option maxRecDepth 20000 in
theorem mw_349 : (Cond.fieldLink R_Mdl 20 "LikelyBitsModel" "states" "[I") ∈ AW := inAW (List.mem_append_right _ (show _ ∈ tables_1_1 ++ (tables_1_2 ++ (tables_1_3 ++ tables_1_4)) from (List.mem_append_right _ (List.mem_append_right _ (List.mem_append_left _ (List.mem_of_getElem? (i := 178) rfl)))))) rfl
set_option maxRecDepth 20000 in
theorem mw_350 : (Cond.methodLink R_Mdl 48 y_Mdl_nextOf) ∈ AW := inAW (List.mem_append_right _ (show _ ∈ tables_1_1 ++ (tables_1_2 ++ (tables_1_3 ++ tables_1_4)) from (List.mem_append_right _ (List.mem_append_right _ (List.mem_append_right _ (List.mem_of_getElem? (i := 72) rfl)))))) rfl
set_option maxRecDepth 20000 in
theorem mw_351 : (Cond.static y_Mdl_nextOf) ∈ AW := inAW (List.mem_append_right _ (show _ ∈ tables_1_1 ++ (tables_1_2 ++ (tables_1_3 ++ tables_1_4)) from (List.mem_append_right _ (List.mem_append_right _ (List.mem_append_right _ (List.mem_of_getElem? (i := 73) rfl)))))) rfl
set_option maxRecDepth 20000 in
theorem mw_352 : (Cond.code y_Mdl_nextOf b_Mdl_nextOf 1 (some .int)) ∈ AW := inAW (List.mem_append_right _ (show _ ∈ tables_1_1 ++ (tables_1_2 ++ (tables_1_3 ++ tables_1_4)) from (List.mem_append_right _ (List.mem_append_right _ (List.mem_append_right _ (List.mem_of_getElem? (i := 74) rfl)))))) rfl
set_option maxRecDepth 20000 in
theorem mw_353 : (Cond.fieldLink R_Mdl 23 "LikelyBitsModel" "likely" "[I") ∈ AW := inAW (List.mem_append_right _ (show _ ∈ tables_1_1 ++ (tables_1_2 ++ (tables_1_3 ++ tables_1_4)) from (List.mem_append_right _ (List.mem_append_right _ (List.mem_append_left _ (List.mem_of_getElem? (i := 179) rfl)))))) rfl
set_option maxRecDepth 20000 in
theorem mw_354 : (Cond.fieldLink R_Mdl 13 "LikelyBitsModel" "other" "[I") ∈ AW := inAW (List.mem_append_right _ (show _ ∈ tables_1_1 ++ (tables_1_2 ++ (tables_1_3 ++ tables_1_4)) from (List.mem_append_right _ (List.mem_append_right _ (List.mem_append_left _ (List.mem_of_getElem? (i := 174) rfl)))))) rfl
set_option maxRecDepth 20000 in
theorem mw_355 : (Cond.fieldLink R_Mdl 108 "LikelyBitsModel" "limit" "I") ∈ AW := inAW (List.mem_append_right _ (show _ ∈ tables_1_1 ++ (tables_1_2 ++ (tables_1_3 ++ tables_1_4)) from (List.mem_append_right _ (List.mem_append_right _ (List.mem_append_left _ (List.mem_of_getElem? (i := 190) rfl)))))) rfl
set_option maxRecDepth 20000 in
theorem mw_356 : (Cond.fieldLink R_Mdl 111 "LikelyBitsModel" "place" "I") ∈ AW := inAW (List.mem_append_right _ (show _ ∈ tables_1_1 ++ (tables_1_2 ++ (tables_1_3 ++ tables_1_4)) from (List.mem_append_right _ (List.mem_append_right _ (List.mem_append_left _ (List.mem_of_getElem? (i := 189) rfl)))))) rfl
set_option maxRecDepth 20000 in
theorem mw_357 : (Cond.fieldLink R_Mdl 120 "LikelyBitsModel" "left" "I") ∈ AW := inAW (List.mem_append_right _ (show _ ∈ tables_1_1 ++ (tables_1_2 ++ (tables_1_3 ++ tables_1_4)) from (List.mem_append_right _ (List.mem_append_right _ (List.mem_append_left _ (List.mem_of_getElem? (i := 194) rfl)))))) rfl
set_option maxRecDepth 20000 in
theorem mw_358 : (Cond.fieldLink R_Mdl 123 "LikelyBitsModel" "last" "I") ∈ AW := inAW (List.mem_append_right _ (show _ ∈ tables_1_1 ++ (tables_1_2 ++ (tables_1_3 ++ tables_1_4)) from (List.mem_append_right _ (List.mem_append_right _ (List.mem_append_left _ (List.mem_of_getElem? (i := 195) rfl)))))) rfl
set_option maxRecDepth 20000 in
theorem mw_359 : (Cond.fieldLink R_Mdl 117 "LikelyBitsModel" "next" "I") ∈ AW := inAW (List.mem_append_right _ (show _ ∈ tables_1_1 ++ (tables_1_2 ++ (tables_1_3 ++ tables_1_4)) from (List.mem_append_right _ (List.mem_append_right _ (List.mem_append_left _ (List.mem_of_getElem? (i := 191) rfl)))))) rfl
set_option maxRecDepth 20000 in
theorem mw_360 : (Cond.methodLink R_Mdl 129 y_Mdl_byteAt) ∈ AW := inAW (List.mem_append_right _ (show _ ∈ tables_1_1 ++ (tables_1_2 ++ (tables_1_3 ++ tables_1_4)) from (List.mem_append_right _ (List.mem_append_right _ (List.mem_append_right _ (List.mem_of_getElem? (i := 99) rfl)))))) rfl
set_option maxRecDepth 20000 in
theorem mw_361 : (Cond.instanceMethod y_Mdl_byteAt) ∈ AW := inAW (List.mem_append_right _ (show _ ∈ tables_1_1 ++ (tables_1_2 ++ (tables_1_3 ++ tables_1_4)) from (List.mem_append_right _ (List.mem_append_right _ (List.mem_append_right _ (List.mem_of_getElem? (i := 101) rfl)))))) rfl
set_option maxRecDepth 20000 in
theorem mw_362 : (Cond.selects R_Mdl y_Mdl_byteAt y_Mdl_byteAt) ∈ AW := inAW (List.mem_append_left _ (List.mem_of_getElem? (i := 20) rfl)) rfl
set_option maxRecDepth 20000 in
theorem mw_363 : (Cond.code y_Mdl_byteAt b_Mdl_byteAt 2 (some .int)) ∈ AW := inAW (List.mem_append_right _ (show _ ∈ tables_1_1 ++ (tables_1_2 ++ (tables_1_3 ++ tables_1_4)) from (List.mem_append_right _ (List.mem_append_right _ (List.mem_append_right _ (List.mem_of_getElem? (i := 102) rfl)))))) rfl
set_option maxRecDepth 20000 in
theorem mw_364 : (Cond.constant R_Mdl 141 65280) ∈ AW := inAW (List.mem_append_right _ (show _ ∈ tables_1_1 ++ (tables_1_2 ++ (tables_1_3 ++ tables_1_4)) from (List.mem_append_right _ (List.mem_append_right _ (List.mem_append_right _ (List.mem_of_getElem? (i := 108) rfl)))))) rfl
set_option maxRecDepth 20000 in
theorem mw_365 : (Cond.fieldLink R_Mdl 126 "LikelyBitsModel" "span" "I") ∈ AW := inAW (List.mem_append_right _ (show _ ∈ tables_1_1 ++ (tables_1_2 ++ (tables_1_3 ++ tables_1_4)) from (List.mem_append_right _ (List.mem_append_right _ (List.mem_append_left _ (List.mem_of_getElem? (i := 193) rfl)))))) rfl
set_option maxRecDepth 20000 in
theorem mw_366 : (Cond.fieldLink R_Mdl 134 "LikelyBitsModel" "above" "J") ∈ AW := inAW (List.mem_append_right _ (show _ ∈ tables_1_1 ++ (tables_1_2 ++ (tables_1_3 ++ tables_1_4)) from (List.mem_append_right _ (List.mem_append_right _ (List.mem_append_left _ (List.mem_of_getElem? (i := 192) rfl)))))) rfl
set_option maxRecDepth 20000 in
theorem mw_367 : (Cond.constantLong R_Mdl 142 4294967296) ∈ AW := inAW (List.mem_append_right _ (show _ ∈ tables_1_1 ++ (tables_1_2 ++ (tables_1_3 ++ tables_1_4)) from (List.mem_append_right _ (List.mem_append_right _ (List.mem_append_right _ (List.mem_of_getElem? (i := 125) rfl)))))) rfl
theorem rd_vin {f : Nat → Int32} {u pl lm x : Int32} {L : List Int32} (h : row_ok 65536 f u L) (hrd : rdok pl lm L) (hx : ¬ x < 0) (c : ¬ lm ≤ x) : vp_in (pl + x) 65536 := by
  have h1 := rd_in hrd hx c
  refine ix_in (by decide) h1.1 (fun q => h1.2 ?_)
  have hl := row_len h
  exact Int32.le_trans (nI_le hl (by decide)) q

def wo_M_byteOut (k : gK) (h0 pB : Nat) (pP : Nat) (pO : Nat) (pS : Nat) (pK : Nat) (th : Int32) (sz : Int32) (op : Int32) (rw : Int32) (bg : Int32) (lo : Int32) (cd : Int32) (wd : Int32) (rm : Int32) (rg : Int32) (rr : Int32) (pl : Int32) (lm : Int32) (nx : Int32) (av : Int64) (sp : Int32) (le : Int32) (la : Int32) (B : Nat → Int32) (L : List Int32) (zz : (Nat → Int32) × Int32) (uu : Int32 × Int32 × List Int32) : va_W := match zz, uu with
  | (B2, sz2), (lo2, rm2, L2) => [(h0, .inr (9, [.ref pP, .ref pO, .int th, .int sz2, .ref pB, .ref pS, .ref pK, .int op, .int rw, .int bg, .int lo2, .int 0, .int wd, .int rm2, .int rg, .int rr, .int pl, .int lm, .int nx, .long av, .int sp, .int le, .int la])), (pB, .inl (k.1, 65536, .inl B2))]
def ex_M_byteOut (k : gK) (h0 pB : Nat) (pP : Nat) (pO : Nat) (pS : Nat) (pK : Nat) (th : Int32) (sz : Int32) (op : Int32) (rw : Int32) (bg : Int32) (lo : Int32) (cd : Int32) (wd : Int32) (rm : Int32) (rg : Int32) (rr : Int32) (pl : Int32) (lm : Int32) (nx : Int32) (av : Int64) (sp : Int32) (le : Int32) (la : Int32) (B : Nat → Int32) (L : List Int32) (zz : (Nat → Int32) × Int32) (uu : Int32 × Int32 × List Int32) : Prop := match zz, uu with
  | (B2, sz2), (lo2, rm2, L2) => row_ok 65536 B2 sz2 L2
def po_M_byteOut (k : gK) (h0 pB : Nat) (pP : Nat) (pO : Nat) (pS : Nat) (pK : Nat) (th : Int32) (sz : Int32) (op : Int32) (rw : Int32) (bg : Int32) (lo : Int32) (cd : Int32) (wd : Int32) (rm : Int32) (rg : Int32) (rr : Int32) (pl : Int32) (lm : Int32) (nx : Int32) (av : Int64) (sp : Int32) (le : Int32) (la : Int32) (B : Nat → Int32) (L : List Int32) (uu : Int32 × Int32 × List Int32) : Prop := match uu with
  | (lo2, rm2, L2) => lo2 = (mbo bg lo cd L).1 ∧ rm2 = (mbo bg lo cd L).2.1 ∧ L2 = (mbo bg lo cd L).2.2
def qc_M_byteOut (D : va_G) (k : gK) (h0 pB : Nat) (pP : Nat) (pO : Nat) (pS : Nat) (pK : Nat) (th : Int32) (sz : Int32) (op : Int32) (rw : Int32) (bg : Int32) (lo : Int32) (cd : Int32) (wd : Int32) (rm : Int32) (rg : Int32) (rr : Int32) (pl : Int32) (lm : Int32) (nx : Int32) (av : Int64) (sp : Int32) (le : Int32) (la : Int32) (B : Nat → Int32) (L : List Int32) (A : Nat → Prop) : Array Value → State → Outcome → State → Prop := va_Qv (po_M_byteOut k h0 pB pP pO pS pK th sz op rw bg lo cd wd rm rg rr pl lm nx av sp le la B L) (fun uu t => ∃ zz, ex_M_byteOut k h0 pB pP pO pS pK th sz op rw bg lo cd wd rm rg rr pl lm nx av sp le la B L zz uu ∧ GP D A (wo_M_byteOut k h0 pB pP pO pS pK th sz op rw bg lo cd wd rm rg rr pl lm nx av sp le la B L zz uu) t) A
set_option maxHeartbeats 1000000 in
set_option maxRecDepth 100000 in
theorem c_M_byteOut (l : Launch) (hl9 : l.stackTraces = false) (D : va_G) (k : gK) (h0 pB : Nat) (zsz : Nat) (pP : Nat) (pO : Nat) (pS : Nat) (pK : Nat) (th : Int32) (sz : Int32) (op : Int32) (rw : Int32) (bg : Int32) (lo : Int32) (cd : Int32) (wd : Int32) (rm : Int32) (rg : Int32) (rr : Int32) (pl : Int32) (lm : Int32) (nx : Int32) (av : Int64) (sp : Int32) (le : Int32) (la : Int32) (B : Nat → Int32) (L : List Int32) (hM : row_ok 65536 B sz L) (hbg : ¬ bg < 0) (hlt : L.length < 65536) (hcd : cd = 0 ∨ ¬ sz ≤ bg) : Met l y_Mdl_byteOut (.code y_Mdl_byteOut b_Mdl_byteOut 2 none :: AW) ({ frames := 1, cells := 0, slots := 0, locals := 20 }) (va_Pc [.ref h0] (GG D k [(h0, .inr (9, [.ref pP, .ref pO, .int th, .int sz, .ref pB, .ref pS, .ref pK, .int op, .int rw, .int bg, .int lo, .int cd, .int wd, .int rm, .int rg, .int rr, .int pl, .int lm, .int nx, .long av, .int sp, .int le, .int la])), (pB, .inl (k.1, 65536, .inl B))] zsz)) (qc_M_byteOut D k h0 pB pP pO pS pK th sz op rw bg lo cd wd rm rg rr pl lm nx av sp le la B L (va_A [(h0, .inr (9, [.ref pP, .ref pO, .int th, .int sz, .ref pB, .ref pS, .ref pK, .int op, .int rw, .int bg, .int lo, .int cd, .int wd, .int rm, .int rg, .int rr, .int pl, .int lm, .int nx, .long av, .int sp, .int le, .int la])), (pB, .inl (k.1, 65536, .inl B))] zsz)) 0 0 (va_A [(h0, .inr (9, [.ref pP, .ref pO, .int th, .int sz, .ref pB, .ref pS, .ref pK, .int op, .int rw, .int bg, .int lo, .int cd, .int wd, .int rm, .int rg, .int rr, .int pl, .int lm, .int nx, .long av, .int sp, .int le, .int la])), (pB, .inl (k.1, 65536, .inl B))] zsz) := by
  refine kMet (ws := [(h0, .inr (9, [.ref pP, .ref pO, .int th, .int sz, .ref pB, .ref pS, .ref pK, .int op, .int rw, .int bg, .int lo, .int cd, .int wd, .int rm, .int rg, .int rr, .int pl, .int lm, .int nx, .long av, .int sp, .int le, .int la])), (pB, .inl (k.1, 65536, .inl B))]) (Qc := qc_M_byteOut D k h0 pB pP pO pS pK th sz op rw bg lo cd wd rm rg rr pl lm nx av sp le la B L) (by decide) (Nat.le_of_ble_eq_true rfl) (fun p e s m below meth c ls A H Cc hP hD hA hS hl => ?_)
  obtain ⟨hx, hb, hml, hr, hlk, hown, hts, hK, hE, hin⟩ := Cc
  have hl : lv_has ls 2 [(0, .ref h0)] := hl
  refine lv_aload_n hx hb d_Mdl_byteOut_0 rfl (lv_at hl 0 rfl) ?_
  refine va_get (D := D) (ci := 9) (v := .int cd) (C := R_Mdl) (T := T_Mdl) (N := 23) hx hb hts inw_Mdl hown hK hP 0 rfl rfl 11 (by decide) (hts (.fieldLink R_Mdl 60 "LikelyBitsModel" "carried" "Z") mw_334) (fun _ h9 => h9) rfl d_Mdl_byteOut_1 ?_
  refine lv_if_eq (tgt := 22) hx hb d_Mdl_byteOut_4 (by decide) (fun c1 => ?_) (fun c1 => ?_)
  · refine lv_aload_n hx hb d_Mdl_byteOut_22 rfl (lv_at hl 0 rfl) ?_
    refine lv_iconst (v := 0) hx hb d_Mdl_byteOut_23 (by decide) ?_
    refine va_put (D := D) (ci := 9) (v := .int 0) (ty := .boolean) (C := R_Mdl) (T := T_Mdl) (N := 23) hx hb hts inw_Mdl ty_Mdl tyok_Mdl nm_Mdl hown hK hP hD hS 0 rfl rfl 11 (by decide) (hts (.fieldLink R_Mdl 60 "LikelyBitsModel" "carried" "Z") mw_334) (fun _ h9 => h9) rfl (by decide +kernel) rfl rfl (Nat.le_of_ble_eq_true rfl) d_Mdl_byteOut_24 (fun H locs hP hD hS => ?_)
    have hP : va_P D vwCl [(h0, .inr (9, [.ref pP, .ref pO, .int th, .int sz, .ref pB, .ref pS, .ref pK, .int op, .int rw, .int bg, .int lo, .int 0, .int wd, .int rm, .int rg, .int rr, .int pl, .int lm, .int nx, .long av, .int sp, .int le, .int la])), (pB, .inl (k.1, 65536, .inl B))] H := hP
    have hD : va_D A [(h0, .inr (9, [.ref pP, .ref pO, .int th, .int sz, .ref pB, .ref pS, .ref pK, .int op, .int rw, .int bg, .int lo, .int 0, .int wd, .int rm, .int rg, .int rr, .int pl, .int lm, .int nx, .long av, .int sp, .int le, .int la])), (pB, .inl (k.1, 65536, .inl B))] := hD
    refine lv_aload_n hx hb d_Mdl_byteOut_27 rfl (lv_at hl 0 rfl) ?_
    refine lv_aload_n hx hb d_Mdl_byteOut_28 rfl (lv_at hl 0 rfl) ?_
    refine kqi (va_runV (As := []) (rest := [.ref h0]) ⟨hx, hb, hml, hown, hts⟩ (c_M_hasLast l hl9 D k h0 pP pO pB pS pK th sz op rw bg lo 0 wd rm rg rr pl lm nx av sp le la ) (cwV 0 hts (gV mw_328 mw_329 mw_330 mw_331 mw_332) rfl rfl rfl (by decide +kernel) ⟨(Nat.le_of_ble_eq_true rfl), (Nat.le_of_ble_eq_true rfl)⟩) (kRecv (q := (R_Mdl, T_Mdl, 23)) (q0 := 0) (ci := 9) hK hP rfl rfl (kPreR (wc := [(h0, .inr (9, [.ref pP, .ref pO, .int th, .int sz, .ref pB, .ref pS, .ref pK, .int op, .int rw, .int bg, .int lo, .int 0, .int wd, .int rm, .int rg, .int rr, .int pl, .int lm, .int nx, .long av, .int sp, .int le, .int la]))]) hE hK hP hS [0] rfl)) rfl rfl hl.1 rfl (lv_room (Nat.le_of_ble_eq_true rfl)) d_Mdl_byteOut_29 ⟨(Nat.le_of_ble_eq_true rfl), (Nat.le_of_ble_eq_true rfl)⟩) hP hS (fun r2 H locs hw hP hS => ?_)
    replace hw := hw.symm
    subst hw
    refine lv_if_eq (tgt := 57) hx hb d_Mdl_byteOut_32 (by decide) (fun c3 => ?_) (fun c3 => ?_)
    · have hq4 : nI L.length ≤ bg := by rw [← hM.1]; exact mhl_eq c3
      refine lv_bipush (v := 8) hx hb d_Mdl_byteOut_57 (by decide) ?_
      refine va_put (D := D) (ci := 9) (v := .int 8) (ty := .int) (C := R_Mdl) (T := T_Mdl) (N := 23) hx hb hts inw_Mdl ty_Mdl tyok_Mdl nm_Mdl hown hK hP hD hS 0 rfl rfl 13 (by decide) (hts (.fieldLink R_Mdl 63 "LikelyBitsModel" "room" "I") mw_335) (fun _ h9 => h9) rfl (by decide +kernel) rfl rfl (Nat.le_of_ble_eq_true rfl) d_Mdl_byteOut_59 (fun H locs hP hD hS => ?_)
      have hP : va_P D vwCl [(h0, .inr (9, [.ref pP, .ref pO, .int th, .int sz, .ref pB, .ref pS, .ref pK, .int op, .int rw, .int bg, .int lo, .int 0, .int wd, .int 8, .int rg, .int rr, .int pl, .int lm, .int nx, .long av, .int sp, .int le, .int la])), (pB, .inl (k.1, 65536, .inl B))] H := hP
      have hD : va_D A [(h0, .inr (9, [.ref pP, .ref pO, .int th, .int sz, .ref pB, .ref pS, .ref pK, .int op, .int rw, .int bg, .int lo, .int 0, .int wd, .int 8, .int rg, .int rr, .int pl, .int lm, .int nx, .long av, .int sp, .int le, .int la])), (pB, .inl (k.1, 65536, .inl B))] := hD
      refine lv_bipush (v := 27) hx hb d_Mdl_byteOut_62 (by decide) ?_
      refine lv_aload_n hx hb d_Mdl_byteOut_64 rfl (lv_at hl 0 rfl) ?_
      refine va_get (D := D) (ci := 9) (v := .int 8) (C := R_Mdl) (T := T_Mdl) (N := 23) hx hb hts inw_Mdl hown hK hP 0 rfl rfl 13 (by decide) (hts (.fieldLink R_Mdl 63 "LikelyBitsModel" "room" "I") mw_335) (fun _ h9 => h9) rfl d_Mdl_byteOut_65 ?_
      refine lv_isub hx hb d_Mdl_byteOut_68 ?_
      refine lv_topi (fun x5 ex5 => ?_)
      refine lv_istore_n (lv' := [(1, .int x5), (0, .ref h0)]) hx hb d_Mdl_byteOut_69 rfl hl (by decide) rfl (fun ls hl => ?_)
      refine lv_aload_n hx hb d_Mdl_byteOut_70 rfl (lv_at hl 1 rfl) ?_
      refine va_get (D := D) (ci := 9) (v := .ref pB) (C := R_Mdl) (T := T_Mdl) (N := 23) hx hb hts inw_Mdl hown hK hP 0 rfl rfl 4 (by decide) (hts (.fieldLink R_Mdl 17 "LikelyBitsModel" "bytes" "[I") mw_333) (fun _ h9 => h9) rfl d_Mdl_byteOut_71 ?_
      refine lv_aload_n hx hb d_Mdl_byteOut_74 rfl (lv_at hl 1 rfl) ?_
      refine va_get (D := D) (ci := 9) (v := .int sz) (C := R_Mdl) (T := T_Mdl) (N := 23) hx hb hts inw_Mdl hown hK hP 0 rfl rfl 3 (by decide) (hts (.fieldLink R_Mdl 30 "LikelyBitsModel" "size" "I") mw_324) (fun _ h9 => h9) rfl d_Mdl_byteOut_75 ?_
      refine lv_aload_n hx hb d_Mdl_byteOut_78 rfl (lv_at hl 1 rfl) ?_
      refine va_get (D := D) (ci := 9) (v := .int lo) (C := R_Mdl) (T := T_Mdl) (N := 23) hx hb hts inw_Mdl hown hK hP 0 rfl rfl 10 (by decide) (hts (.fieldLink R_Mdl 73 "LikelyBitsModel" "low" "I") mw_344) (fun _ h9 => h9) rfl d_Mdl_byteOut_79 ?_
      refine lv_iload_n hx hb d_Mdl_byteOut_82 rfl (lv_at hl 0 rfl) ?_
      refine lv_ishr hx hb d_Mdl_byteOut_83 ?_
      refine lv_sipush (v := 255) hx hb d_Mdl_byteOut_84 (by decide) ?_
      refine lv_iand hx hb d_Mdl_byteOut_87 ?_
      refine va_iast hx hb hK hP hD hS 1 0 rfl rfl (m_stin hM hlt) d_Mdl_byteOut_88 (fun H locs hP hD hS => ?_)
      have hP : va_P D vwCl [(h0, .inr (9, [.ref pP, .ref pO, .int th, .int sz, .ref pB, .ref pS, .ref pK, .int op, .int rw, .int bg, .int lo, .int 0, .int wd, .int 8, .int rg, .int rr, .int pl, .int lm, .int nx, .long av, .int sp, .int le, .int la])), (pB, .inl (k.1, 65536, .inl (upd B sz.toNatClampNeg ((lo >>> (x5 &&& 31)) &&& 255))))] H := hP
      have hD : va_D A [(h0, .inr (9, [.ref pP, .ref pO, .int th, .int sz, .ref pB, .ref pS, .ref pK, .int op, .int rw, .int bg, .int lo, .int 0, .int wd, .int 8, .int rg, .int rr, .int pl, .int lm, .int nx, .long av, .int sp, .int le, .int la])), (pB, .inl (k.1, 65536, .inl (upd B sz.toNatClampNeg ((lo >>> (x5 &&& 31)) &&& 255))))] := hD
      generalize hB7 : upd B sz.toNatClampNeg ((lo >>> (x5 &&& 31)) &&& 255) = B7 at hP hD
      have hP : va_P D vwCl [(h0, .inr (9, [.ref pP, .ref pO, .int th, .int sz, .ref pB, .ref pS, .ref pK, .int op, .int rw, .int bg, .int lo, .int 0, .int wd, .int 8, .int rg, .int rr, .int pl, .int lm, .int nx, .long av, .int sp, .int le, .int la])), (pB, .inl (k.1, 65536, .inl B7))] H := hP
      have hD : va_D A [(h0, .inr (9, [.ref pP, .ref pO, .int th, .int sz, .ref pB, .ref pS, .ref pK, .int op, .int rw, .int bg, .int lo, .int 0, .int wd, .int 8, .int rg, .int rr, .int pl, .int lm, .int nx, .long av, .int sp, .int le, .int la])), (pB, .inl (k.1, 65536, .inl B7))] := hD
      have hM6 : row_ok 65536 B7 (sz + 1) (L ++ [((lo >>> (x5 &&& 31)) &&& 255)]) := by rw [← hB7]; exact m_app hM hlt
      refine lv_aload_n hx hb d_Mdl_byteOut_89 rfl (lv_at hl 1 rfl) ?_
      refine lv_aload_n hx hb d_Mdl_byteOut_90 rfl (lv_at hl 1 rfl) ?_
      refine va_get (D := D) (ci := 9) (v := .int lo) (C := R_Mdl) (T := T_Mdl) (N := 23) hx hb hts inw_Mdl hown hK hP 0 rfl rfl 10 (by decide) (hts (.fieldLink R_Mdl 73 "LikelyBitsModel" "low" "I") mw_344) (fun _ h9 => h9) rfl d_Mdl_byteOut_91 ?_
      refine lv_iconst (v := 1) hx hb d_Mdl_byteOut_94 (by decide) ?_
      refine lv_iload_n hx hb d_Mdl_byteOut_95 rfl (lv_at hl 0 rfl) ?_
      refine lv_ishl hx hb d_Mdl_byteOut_96 ?_
      refine lv_iconst (v := 1) hx hb d_Mdl_byteOut_97 (by decide) ?_
      refine lv_isub hx hb d_Mdl_byteOut_98 ?_
      refine lv_iand hx hb d_Mdl_byteOut_99 ?_
      refine lv_topi (fun x8 ex8 => ?_)
      refine va_put (D := D) (ci := 9) (v := .int x8) (ty := .int) (C := R_Mdl) (T := T_Mdl) (N := 23) hx hb hts inw_Mdl ty_Mdl tyok_Mdl nm_Mdl hown hK hP hD hS 0 rfl rfl 10 (by decide) (hts (.fieldLink R_Mdl 73 "LikelyBitsModel" "low" "I") mw_344) (fun _ h9 => h9) rfl (by decide +kernel) rfl rfl (Nat.le_of_ble_eq_true rfl) d_Mdl_byteOut_100 (fun H locs hP hD hS => ?_)
      have hP : va_P D vwCl [(h0, .inr (9, [.ref pP, .ref pO, .int th, .int sz, .ref pB, .ref pS, .ref pK, .int op, .int rw, .int bg, .int x8, .int 0, .int wd, .int 8, .int rg, .int rr, .int pl, .int lm, .int nx, .long av, .int sp, .int le, .int la])), (pB, .inl (k.1, 65536, .inl B7))] H := hP
      have hD : va_D A [(h0, .inr (9, [.ref pP, .ref pO, .int th, .int sz, .ref pB, .ref pS, .ref pK, .int op, .int rw, .int bg, .int x8, .int 0, .int wd, .int 8, .int rg, .int rr, .int pl, .int lm, .int nx, .long av, .int sp, .int le, .int la])), (pB, .inl (k.1, 65536, .inl B7))] := hD
      refine lv_aload_n hx hb d_Mdl_byteOut_103 rfl (lv_at hl 1 rfl) ?_
      refine lv_dup hx hb d_Mdl_byteOut_104 rfl ?_
      refine va_get (D := D) (ci := 9) (v := .int sz) (C := R_Mdl) (T := T_Mdl) (N := 23) hx hb hts inw_Mdl hown hK hP 0 rfl rfl 3 (by decide) (hts (.fieldLink R_Mdl 30 "LikelyBitsModel" "size" "I") mw_324) (fun _ h9 => h9) rfl d_Mdl_byteOut_105 ?_
      refine lv_iconst (v := 1) hx hb d_Mdl_byteOut_108 (by decide) ?_
      refine lv_iadd hx hb d_Mdl_byteOut_109 ?_
      refine lv_topi (fun x9 ex9 => ?_)
      refine va_put (D := D) (ci := 9) (v := .int x9) (ty := .int) (C := R_Mdl) (T := T_Mdl) (N := 23) hx hb hts inw_Mdl ty_Mdl tyok_Mdl nm_Mdl hown hK hP hD hS 0 rfl rfl 3 (by decide) (hts (.fieldLink R_Mdl 30 "LikelyBitsModel" "size" "I") mw_324) (fun _ h9 => h9) rfl (by decide +kernel) rfl rfl (Nat.le_of_ble_eq_true rfl) d_Mdl_byteOut_110 (fun H locs hP hD hS => ?_)
      have hP : va_P D vwCl [(h0, .inr (9, [.ref pP, .ref pO, .int th, .int x9, .ref pB, .ref pS, .ref pK, .int op, .int rw, .int bg, .int x8, .int 0, .int wd, .int 8, .int rg, .int rr, .int pl, .int lm, .int nx, .long av, .int sp, .int le, .int la])), (pB, .inl (k.1, 65536, .inl B7))] H := hP
      have hD : va_D A [(h0, .inr (9, [.ref pP, .ref pO, .int th, .int x9, .ref pB, .ref pS, .ref pK, .int op, .int rw, .int bg, .int x8, .int 0, .int wd, .int 8, .int rg, .int rr, .int pl, .int lm, .int nx, .long av, .int sp, .int le, .int la])), (pB, .inl (k.1, 65536, .inl B7))] := hD
      exact krv (wo := wo_M_byteOut k h0 pB pP pO pS pK th sz op rw bg lo cd wd rm rg rr pl lm nx av sp le la B L) hx hb hr hlk hP hD hS (x8, 8, (L ++ [((lo >>> (x5 &&& 31)) &&& 255)])) (B7, x9) (by subst ex9; subst ex8; subst ex5; simp [po_M_byteOut, mbo, mb2, mb3, c1, c3, hq4]) (by rw [ex9]; exact hM6) [0, 1] rfl (by decide) (Nat.le_of_ble_eq_true rfl) (Nat.le_of_ble_eq_true rfl) d_Mdl_byteOut_113
    · have hq10 : ¬ nI L.length ≤ bg := by rw [← hM.1]; exact mhl_ne c3
      have hq10n := mhl_ne c3
      refine lv_aload_n hx hb d_Mdl_byteOut_35 rfl (lv_at hl 0 rfl) ?_
      refine va_get (D := D) (ci := 9) (v := .ref pB) (C := R_Mdl) (T := T_Mdl) (N := 23) hx hb hts inw_Mdl hown hK hP 0 rfl rfl 4 (by decide) (hts (.fieldLink R_Mdl 17 "LikelyBitsModel" "bytes" "[I") mw_333) (fun _ h9 => h9) rfl d_Mdl_byteOut_36 ?_
      refine lv_aload_n hx hb d_Mdl_byteOut_39 rfl (lv_at hl 0 rfl) ?_
      refine va_get (D := D) (ci := 9) (v := .int sz) (C := R_Mdl) (T := T_Mdl) (N := 23) hx hb hts inw_Mdl hown hK hP 0 rfl rfl 3 (by decide) (hts (.fieldLink R_Mdl 30 "LikelyBitsModel" "size" "I") mw_324) (fun _ h9 => h9) rfl d_Mdl_byteOut_40 ?_
      refine lv_iconst (v := 1) hx hb d_Mdl_byteOut_43 (by decide) ?_
      refine lv_isub hx hb d_Mdl_byteOut_44 ?_
      refine va_iald hx hb hK hP 1 0 rfl rfl (m_lin hM hbg (mhl_ne c3)) d_Mdl_byteOut_45 ?_
      refine lv_sipush (v := 255) hx hb d_Mdl_byteOut_46 (by decide) ?_
      refine lv_icmp_ne (tgt := 57) hx hb d_Mdl_byteOut_49 (by decide) (fun c11 => ?_) (fun c11 => ?_)
      · have hq12 : ¬ mlast L = 255 := fun q => c11 ((m_lv hM hbg (mhl_ne c3)).trans q)
        refine lv_bipush (v := 8) hx hb d_Mdl_byteOut_57 (by decide) ?_
        refine va_put (D := D) (ci := 9) (v := .int 8) (ty := .int) (C := R_Mdl) (T := T_Mdl) (N := 23) hx hb hts inw_Mdl ty_Mdl tyok_Mdl nm_Mdl hown hK hP hD hS 0 rfl rfl 13 (by decide) (hts (.fieldLink R_Mdl 63 "LikelyBitsModel" "room" "I") mw_335) (fun _ h9 => h9) rfl (by decide +kernel) rfl rfl (Nat.le_of_ble_eq_true rfl) d_Mdl_byteOut_59 (fun H locs hP hD hS => ?_)
        have hP : va_P D vwCl [(h0, .inr (9, [.ref pP, .ref pO, .int th, .int sz, .ref pB, .ref pS, .ref pK, .int op, .int rw, .int bg, .int lo, .int 0, .int wd, .int 8, .int rg, .int rr, .int pl, .int lm, .int nx, .long av, .int sp, .int le, .int la])), (pB, .inl (k.1, 65536, .inl B))] H := hP
        have hD : va_D A [(h0, .inr (9, [.ref pP, .ref pO, .int th, .int sz, .ref pB, .ref pS, .ref pK, .int op, .int rw, .int bg, .int lo, .int 0, .int wd, .int 8, .int rg, .int rr, .int pl, .int lm, .int nx, .long av, .int sp, .int le, .int la])), (pB, .inl (k.1, 65536, .inl B))] := hD
        refine lv_bipush (v := 27) hx hb d_Mdl_byteOut_62 (by decide) ?_
        refine lv_aload_n hx hb d_Mdl_byteOut_64 rfl (lv_at hl 0 rfl) ?_
        refine va_get (D := D) (ci := 9) (v := .int 8) (C := R_Mdl) (T := T_Mdl) (N := 23) hx hb hts inw_Mdl hown hK hP 0 rfl rfl 13 (by decide) (hts (.fieldLink R_Mdl 63 "LikelyBitsModel" "room" "I") mw_335) (fun _ h9 => h9) rfl d_Mdl_byteOut_65 ?_
        refine lv_isub hx hb d_Mdl_byteOut_68 ?_
        refine lv_topi (fun x13 ex13 => ?_)
        refine lv_istore_n (lv' := [(1, .int x13), (0, .ref h0)]) hx hb d_Mdl_byteOut_69 rfl hl (by decide) rfl (fun ls hl => ?_)
        refine lv_aload_n hx hb d_Mdl_byteOut_70 rfl (lv_at hl 1 rfl) ?_
        refine va_get (D := D) (ci := 9) (v := .ref pB) (C := R_Mdl) (T := T_Mdl) (N := 23) hx hb hts inw_Mdl hown hK hP 0 rfl rfl 4 (by decide) (hts (.fieldLink R_Mdl 17 "LikelyBitsModel" "bytes" "[I") mw_333) (fun _ h9 => h9) rfl d_Mdl_byteOut_71 ?_
        refine lv_aload_n hx hb d_Mdl_byteOut_74 rfl (lv_at hl 1 rfl) ?_
        refine va_get (D := D) (ci := 9) (v := .int sz) (C := R_Mdl) (T := T_Mdl) (N := 23) hx hb hts inw_Mdl hown hK hP 0 rfl rfl 3 (by decide) (hts (.fieldLink R_Mdl 30 "LikelyBitsModel" "size" "I") mw_324) (fun _ h9 => h9) rfl d_Mdl_byteOut_75 ?_
        refine lv_aload_n hx hb d_Mdl_byteOut_78 rfl (lv_at hl 1 rfl) ?_
        refine va_get (D := D) (ci := 9) (v := .int lo) (C := R_Mdl) (T := T_Mdl) (N := 23) hx hb hts inw_Mdl hown hK hP 0 rfl rfl 10 (by decide) (hts (.fieldLink R_Mdl 73 "LikelyBitsModel" "low" "I") mw_344) (fun _ h9 => h9) rfl d_Mdl_byteOut_79 ?_
        refine lv_iload_n hx hb d_Mdl_byteOut_82 rfl (lv_at hl 0 rfl) ?_
        refine lv_ishr hx hb d_Mdl_byteOut_83 ?_
        refine lv_sipush (v := 255) hx hb d_Mdl_byteOut_84 (by decide) ?_
        refine lv_iand hx hb d_Mdl_byteOut_87 ?_
        refine va_iast hx hb hK hP hD hS 1 0 rfl rfl (m_stin hM hlt) d_Mdl_byteOut_88 (fun H locs hP hD hS => ?_)
        have hP : va_P D vwCl [(h0, .inr (9, [.ref pP, .ref pO, .int th, .int sz, .ref pB, .ref pS, .ref pK, .int op, .int rw, .int bg, .int lo, .int 0, .int wd, .int 8, .int rg, .int rr, .int pl, .int lm, .int nx, .long av, .int sp, .int le, .int la])), (pB, .inl (k.1, 65536, .inl (upd B sz.toNatClampNeg ((lo >>> (x13 &&& 31)) &&& 255))))] H := hP
        have hD : va_D A [(h0, .inr (9, [.ref pP, .ref pO, .int th, .int sz, .ref pB, .ref pS, .ref pK, .int op, .int rw, .int bg, .int lo, .int 0, .int wd, .int 8, .int rg, .int rr, .int pl, .int lm, .int nx, .long av, .int sp, .int le, .int la])), (pB, .inl (k.1, 65536, .inl (upd B sz.toNatClampNeg ((lo >>> (x13 &&& 31)) &&& 255))))] := hD
        generalize hB15 : upd B sz.toNatClampNeg ((lo >>> (x13 &&& 31)) &&& 255) = B15 at hP hD
        have hP : va_P D vwCl [(h0, .inr (9, [.ref pP, .ref pO, .int th, .int sz, .ref pB, .ref pS, .ref pK, .int op, .int rw, .int bg, .int lo, .int 0, .int wd, .int 8, .int rg, .int rr, .int pl, .int lm, .int nx, .long av, .int sp, .int le, .int la])), (pB, .inl (k.1, 65536, .inl B15))] H := hP
        have hD : va_D A [(h0, .inr (9, [.ref pP, .ref pO, .int th, .int sz, .ref pB, .ref pS, .ref pK, .int op, .int rw, .int bg, .int lo, .int 0, .int wd, .int 8, .int rg, .int rr, .int pl, .int lm, .int nx, .long av, .int sp, .int le, .int la])), (pB, .inl (k.1, 65536, .inl B15))] := hD
        have hM14 : row_ok 65536 B15 (sz + 1) (L ++ [((lo >>> (x13 &&& 31)) &&& 255)]) := by rw [← hB15]; exact m_app hM hlt
        refine lv_aload_n hx hb d_Mdl_byteOut_89 rfl (lv_at hl 1 rfl) ?_
        refine lv_aload_n hx hb d_Mdl_byteOut_90 rfl (lv_at hl 1 rfl) ?_
        refine va_get (D := D) (ci := 9) (v := .int lo) (C := R_Mdl) (T := T_Mdl) (N := 23) hx hb hts inw_Mdl hown hK hP 0 rfl rfl 10 (by decide) (hts (.fieldLink R_Mdl 73 "LikelyBitsModel" "low" "I") mw_344) (fun _ h9 => h9) rfl d_Mdl_byteOut_91 ?_
        refine lv_iconst (v := 1) hx hb d_Mdl_byteOut_94 (by decide) ?_
        refine lv_iload_n hx hb d_Mdl_byteOut_95 rfl (lv_at hl 0 rfl) ?_
        refine lv_ishl hx hb d_Mdl_byteOut_96 ?_
        refine lv_iconst (v := 1) hx hb d_Mdl_byteOut_97 (by decide) ?_
        refine lv_isub hx hb d_Mdl_byteOut_98 ?_
        refine lv_iand hx hb d_Mdl_byteOut_99 ?_
        refine lv_topi (fun x16 ex16 => ?_)
        refine va_put (D := D) (ci := 9) (v := .int x16) (ty := .int) (C := R_Mdl) (T := T_Mdl) (N := 23) hx hb hts inw_Mdl ty_Mdl tyok_Mdl nm_Mdl hown hK hP hD hS 0 rfl rfl 10 (by decide) (hts (.fieldLink R_Mdl 73 "LikelyBitsModel" "low" "I") mw_344) (fun _ h9 => h9) rfl (by decide +kernel) rfl rfl (Nat.le_of_ble_eq_true rfl) d_Mdl_byteOut_100 (fun H locs hP hD hS => ?_)
        have hP : va_P D vwCl [(h0, .inr (9, [.ref pP, .ref pO, .int th, .int sz, .ref pB, .ref pS, .ref pK, .int op, .int rw, .int bg, .int x16, .int 0, .int wd, .int 8, .int rg, .int rr, .int pl, .int lm, .int nx, .long av, .int sp, .int le, .int la])), (pB, .inl (k.1, 65536, .inl B15))] H := hP
        have hD : va_D A [(h0, .inr (9, [.ref pP, .ref pO, .int th, .int sz, .ref pB, .ref pS, .ref pK, .int op, .int rw, .int bg, .int x16, .int 0, .int wd, .int 8, .int rg, .int rr, .int pl, .int lm, .int nx, .long av, .int sp, .int le, .int la])), (pB, .inl (k.1, 65536, .inl B15))] := hD
        refine lv_aload_n hx hb d_Mdl_byteOut_103 rfl (lv_at hl 1 rfl) ?_
        refine lv_dup hx hb d_Mdl_byteOut_104 rfl ?_
        refine va_get (D := D) (ci := 9) (v := .int sz) (C := R_Mdl) (T := T_Mdl) (N := 23) hx hb hts inw_Mdl hown hK hP 0 rfl rfl 3 (by decide) (hts (.fieldLink R_Mdl 30 "LikelyBitsModel" "size" "I") mw_324) (fun _ h9 => h9) rfl d_Mdl_byteOut_105 ?_
        refine lv_iconst (v := 1) hx hb d_Mdl_byteOut_108 (by decide) ?_
        refine lv_iadd hx hb d_Mdl_byteOut_109 ?_
        refine lv_topi (fun x17 ex17 => ?_)
        refine va_put (D := D) (ci := 9) (v := .int x17) (ty := .int) (C := R_Mdl) (T := T_Mdl) (N := 23) hx hb hts inw_Mdl ty_Mdl tyok_Mdl nm_Mdl hown hK hP hD hS 0 rfl rfl 3 (by decide) (hts (.fieldLink R_Mdl 30 "LikelyBitsModel" "size" "I") mw_324) (fun _ h9 => h9) rfl (by decide +kernel) rfl rfl (Nat.le_of_ble_eq_true rfl) d_Mdl_byteOut_110 (fun H locs hP hD hS => ?_)
        have hP : va_P D vwCl [(h0, .inr (9, [.ref pP, .ref pO, .int th, .int x17, .ref pB, .ref pS, .ref pK, .int op, .int rw, .int bg, .int x16, .int 0, .int wd, .int 8, .int rg, .int rr, .int pl, .int lm, .int nx, .long av, .int sp, .int le, .int la])), (pB, .inl (k.1, 65536, .inl B15))] H := hP
        have hD : va_D A [(h0, .inr (9, [.ref pP, .ref pO, .int th, .int x17, .ref pB, .ref pS, .ref pK, .int op, .int rw, .int bg, .int x16, .int 0, .int wd, .int 8, .int rg, .int rr, .int pl, .int lm, .int nx, .long av, .int sp, .int le, .int la])), (pB, .inl (k.1, 65536, .inl B15))] := hD
        exact krv (wo := wo_M_byteOut k h0 pB pP pO pS pK th sz op rw bg lo cd wd rm rg rr pl lm nx av sp le la B L) hx hb hr hlk hP hD hS (x16, 8, (L ++ [((lo >>> (x13 &&& 31)) &&& 255)])) (B15, x17) (by subst ex17; subst ex16; subst ex13; simp [po_M_byteOut, mbo, mb2, mb3, c1, c3, c11, hq10, hq12]) (by rw [ex17]; exact hM14) [0, 1] rfl (by decide) (Nat.le_of_ble_eq_true rfl) (Nat.le_of_ble_eq_true rfl) d_Mdl_byteOut_113
      · have hq18 : mlast L = 255 := (m_lv hM hbg (mhl_ne c3)).symm.trans c11
        refine lv_bipush (v := 7) hx hb d_Mdl_byteOut_52 (by decide) ?_
        refine lv_goto (tgt := 59) hx hb d_Mdl_byteOut_54 (by decide) ?_
        refine va_put (D := D) (ci := 9) (v := .int 7) (ty := .int) (C := R_Mdl) (T := T_Mdl) (N := 23) hx hb hts inw_Mdl ty_Mdl tyok_Mdl nm_Mdl hown hK hP hD hS 0 rfl rfl 13 (by decide) (hts (.fieldLink R_Mdl 63 "LikelyBitsModel" "room" "I") mw_335) (fun _ h9 => h9) rfl (by decide +kernel) rfl rfl (Nat.le_of_ble_eq_true rfl) d_Mdl_byteOut_59 (fun H locs hP hD hS => ?_)
        have hP : va_P D vwCl [(h0, .inr (9, [.ref pP, .ref pO, .int th, .int sz, .ref pB, .ref pS, .ref pK, .int op, .int rw, .int bg, .int lo, .int 0, .int wd, .int 7, .int rg, .int rr, .int pl, .int lm, .int nx, .long av, .int sp, .int le, .int la])), (pB, .inl (k.1, 65536, .inl B))] H := hP
        have hD : va_D A [(h0, .inr (9, [.ref pP, .ref pO, .int th, .int sz, .ref pB, .ref pS, .ref pK, .int op, .int rw, .int bg, .int lo, .int 0, .int wd, .int 7, .int rg, .int rr, .int pl, .int lm, .int nx, .long av, .int sp, .int le, .int la])), (pB, .inl (k.1, 65536, .inl B))] := hD
        refine lv_bipush (v := 27) hx hb d_Mdl_byteOut_62 (by decide) ?_
        refine lv_aload_n hx hb d_Mdl_byteOut_64 rfl (lv_at hl 0 rfl) ?_
        refine va_get (D := D) (ci := 9) (v := .int 7) (C := R_Mdl) (T := T_Mdl) (N := 23) hx hb hts inw_Mdl hown hK hP 0 rfl rfl 13 (by decide) (hts (.fieldLink R_Mdl 63 "LikelyBitsModel" "room" "I") mw_335) (fun _ h9 => h9) rfl d_Mdl_byteOut_65 ?_
        refine lv_isub hx hb d_Mdl_byteOut_68 ?_
        refine lv_topi (fun x19 ex19 => ?_)
        refine lv_istore_n (lv' := [(1, .int x19), (0, .ref h0)]) hx hb d_Mdl_byteOut_69 rfl hl (by decide) rfl (fun ls hl => ?_)
        refine lv_aload_n hx hb d_Mdl_byteOut_70 rfl (lv_at hl 1 rfl) ?_
        refine va_get (D := D) (ci := 9) (v := .ref pB) (C := R_Mdl) (T := T_Mdl) (N := 23) hx hb hts inw_Mdl hown hK hP 0 rfl rfl 4 (by decide) (hts (.fieldLink R_Mdl 17 "LikelyBitsModel" "bytes" "[I") mw_333) (fun _ h9 => h9) rfl d_Mdl_byteOut_71 ?_
        refine lv_aload_n hx hb d_Mdl_byteOut_74 rfl (lv_at hl 1 rfl) ?_
        refine va_get (D := D) (ci := 9) (v := .int sz) (C := R_Mdl) (T := T_Mdl) (N := 23) hx hb hts inw_Mdl hown hK hP 0 rfl rfl 3 (by decide) (hts (.fieldLink R_Mdl 30 "LikelyBitsModel" "size" "I") mw_324) (fun _ h9 => h9) rfl d_Mdl_byteOut_75 ?_
        refine lv_aload_n hx hb d_Mdl_byteOut_78 rfl (lv_at hl 1 rfl) ?_
        refine va_get (D := D) (ci := 9) (v := .int lo) (C := R_Mdl) (T := T_Mdl) (N := 23) hx hb hts inw_Mdl hown hK hP 0 rfl rfl 10 (by decide) (hts (.fieldLink R_Mdl 73 "LikelyBitsModel" "low" "I") mw_344) (fun _ h9 => h9) rfl d_Mdl_byteOut_79 ?_
        refine lv_iload_n hx hb d_Mdl_byteOut_82 rfl (lv_at hl 0 rfl) ?_
        refine lv_ishr hx hb d_Mdl_byteOut_83 ?_
        refine lv_sipush (v := 255) hx hb d_Mdl_byteOut_84 (by decide) ?_
        refine lv_iand hx hb d_Mdl_byteOut_87 ?_
        refine va_iast hx hb hK hP hD hS 1 0 rfl rfl (m_stin hM hlt) d_Mdl_byteOut_88 (fun H locs hP hD hS => ?_)
        have hP : va_P D vwCl [(h0, .inr (9, [.ref pP, .ref pO, .int th, .int sz, .ref pB, .ref pS, .ref pK, .int op, .int rw, .int bg, .int lo, .int 0, .int wd, .int 7, .int rg, .int rr, .int pl, .int lm, .int nx, .long av, .int sp, .int le, .int la])), (pB, .inl (k.1, 65536, .inl (upd B sz.toNatClampNeg ((lo >>> (x19 &&& 31)) &&& 255))))] H := hP
        have hD : va_D A [(h0, .inr (9, [.ref pP, .ref pO, .int th, .int sz, .ref pB, .ref pS, .ref pK, .int op, .int rw, .int bg, .int lo, .int 0, .int wd, .int 7, .int rg, .int rr, .int pl, .int lm, .int nx, .long av, .int sp, .int le, .int la])), (pB, .inl (k.1, 65536, .inl (upd B sz.toNatClampNeg ((lo >>> (x19 &&& 31)) &&& 255))))] := hD
        generalize hB21 : upd B sz.toNatClampNeg ((lo >>> (x19 &&& 31)) &&& 255) = B21 at hP hD
        have hP : va_P D vwCl [(h0, .inr (9, [.ref pP, .ref pO, .int th, .int sz, .ref pB, .ref pS, .ref pK, .int op, .int rw, .int bg, .int lo, .int 0, .int wd, .int 7, .int rg, .int rr, .int pl, .int lm, .int nx, .long av, .int sp, .int le, .int la])), (pB, .inl (k.1, 65536, .inl B21))] H := hP
        have hD : va_D A [(h0, .inr (9, [.ref pP, .ref pO, .int th, .int sz, .ref pB, .ref pS, .ref pK, .int op, .int rw, .int bg, .int lo, .int 0, .int wd, .int 7, .int rg, .int rr, .int pl, .int lm, .int nx, .long av, .int sp, .int le, .int la])), (pB, .inl (k.1, 65536, .inl B21))] := hD
        have hM20 : row_ok 65536 B21 (sz + 1) (L ++ [((lo >>> (x19 &&& 31)) &&& 255)]) := by rw [← hB21]; exact m_app hM hlt
        refine lv_aload_n hx hb d_Mdl_byteOut_89 rfl (lv_at hl 1 rfl) ?_
        refine lv_aload_n hx hb d_Mdl_byteOut_90 rfl (lv_at hl 1 rfl) ?_
        refine va_get (D := D) (ci := 9) (v := .int lo) (C := R_Mdl) (T := T_Mdl) (N := 23) hx hb hts inw_Mdl hown hK hP 0 rfl rfl 10 (by decide) (hts (.fieldLink R_Mdl 73 "LikelyBitsModel" "low" "I") mw_344) (fun _ h9 => h9) rfl d_Mdl_byteOut_91 ?_
        refine lv_iconst (v := 1) hx hb d_Mdl_byteOut_94 (by decide) ?_
        refine lv_iload_n hx hb d_Mdl_byteOut_95 rfl (lv_at hl 0 rfl) ?_
        refine lv_ishl hx hb d_Mdl_byteOut_96 ?_
        refine lv_iconst (v := 1) hx hb d_Mdl_byteOut_97 (by decide) ?_
        refine lv_isub hx hb d_Mdl_byteOut_98 ?_
        refine lv_iand hx hb d_Mdl_byteOut_99 ?_
        refine lv_topi (fun x22 ex22 => ?_)
        refine va_put (D := D) (ci := 9) (v := .int x22) (ty := .int) (C := R_Mdl) (T := T_Mdl) (N := 23) hx hb hts inw_Mdl ty_Mdl tyok_Mdl nm_Mdl hown hK hP hD hS 0 rfl rfl 10 (by decide) (hts (.fieldLink R_Mdl 73 "LikelyBitsModel" "low" "I") mw_344) (fun _ h9 => h9) rfl (by decide +kernel) rfl rfl (Nat.le_of_ble_eq_true rfl) d_Mdl_byteOut_100 (fun H locs hP hD hS => ?_)
        have hP : va_P D vwCl [(h0, .inr (9, [.ref pP, .ref pO, .int th, .int sz, .ref pB, .ref pS, .ref pK, .int op, .int rw, .int bg, .int x22, .int 0, .int wd, .int 7, .int rg, .int rr, .int pl, .int lm, .int nx, .long av, .int sp, .int le, .int la])), (pB, .inl (k.1, 65536, .inl B21))] H := hP
        have hD : va_D A [(h0, .inr (9, [.ref pP, .ref pO, .int th, .int sz, .ref pB, .ref pS, .ref pK, .int op, .int rw, .int bg, .int x22, .int 0, .int wd, .int 7, .int rg, .int rr, .int pl, .int lm, .int nx, .long av, .int sp, .int le, .int la])), (pB, .inl (k.1, 65536, .inl B21))] := hD
        refine lv_aload_n hx hb d_Mdl_byteOut_103 rfl (lv_at hl 1 rfl) ?_
        refine lv_dup hx hb d_Mdl_byteOut_104 rfl ?_
        refine va_get (D := D) (ci := 9) (v := .int sz) (C := R_Mdl) (T := T_Mdl) (N := 23) hx hb hts inw_Mdl hown hK hP 0 rfl rfl 3 (by decide) (hts (.fieldLink R_Mdl 30 "LikelyBitsModel" "size" "I") mw_324) (fun _ h9 => h9) rfl d_Mdl_byteOut_105 ?_
        refine lv_iconst (v := 1) hx hb d_Mdl_byteOut_108 (by decide) ?_
        refine lv_iadd hx hb d_Mdl_byteOut_109 ?_
        refine lv_topi (fun x23 ex23 => ?_)
        refine va_put (D := D) (ci := 9) (v := .int x23) (ty := .int) (C := R_Mdl) (T := T_Mdl) (N := 23) hx hb hts inw_Mdl ty_Mdl tyok_Mdl nm_Mdl hown hK hP hD hS 0 rfl rfl 3 (by decide) (hts (.fieldLink R_Mdl 30 "LikelyBitsModel" "size" "I") mw_324) (fun _ h9 => h9) rfl (by decide +kernel) rfl rfl (Nat.le_of_ble_eq_true rfl) d_Mdl_byteOut_110 (fun H locs hP hD hS => ?_)
        have hP : va_P D vwCl [(h0, .inr (9, [.ref pP, .ref pO, .int th, .int x23, .ref pB, .ref pS, .ref pK, .int op, .int rw, .int bg, .int x22, .int 0, .int wd, .int 7, .int rg, .int rr, .int pl, .int lm, .int nx, .long av, .int sp, .int le, .int la])), (pB, .inl (k.1, 65536, .inl B21))] H := hP
        have hD : va_D A [(h0, .inr (9, [.ref pP, .ref pO, .int th, .int x23, .ref pB, .ref pS, .ref pK, .int op, .int rw, .int bg, .int x22, .int 0, .int wd, .int 7, .int rg, .int rr, .int pl, .int lm, .int nx, .long av, .int sp, .int le, .int la])), (pB, .inl (k.1, 65536, .inl B21))] := hD
        exact krv (wo := wo_M_byteOut k h0 pB pP pO pS pK th sz op rw bg lo cd wd rm rg rr pl lm nx av sp le la B L) hx hb hr hlk hP hD hS (x22, 7, (L ++ [((lo >>> (x19 &&& 31)) &&& 255)])) (B21, x23) (by subst ex23; subst ex22; subst ex19; simp [po_M_byteOut, mbo, mb2, mb3, c1, c3, c11, hq10, hq18]) (by rw [ex23]; exact hM20) [0, 1] rfl (by decide) (Nat.le_of_ble_eq_true rfl) (Nat.le_of_ble_eq_true rfl) d_Mdl_byteOut_113
  · refine lv_aload_n hx hb d_Mdl_byteOut_7 rfl (lv_at hl 0 rfl) ?_
    refine va_get (D := D) (ci := 9) (v := .ref pB) (C := R_Mdl) (T := T_Mdl) (N := 23) hx hb hts inw_Mdl hown hK hP 0 rfl rfl 4 (by decide) (hts (.fieldLink R_Mdl 17 "LikelyBitsModel" "bytes" "[I") mw_333) (fun _ h9 => h9) rfl d_Mdl_byteOut_8 ?_
    refine lv_aload_n hx hb d_Mdl_byteOut_11 rfl (lv_at hl 0 rfl) ?_
    refine va_get (D := D) (ci := 9) (v := .int sz) (C := R_Mdl) (T := T_Mdl) (N := 23) hx hb hts inw_Mdl hown hK hP 0 rfl rfl 3 (by decide) (hts (.fieldLink R_Mdl 30 "LikelyBitsModel" "size" "I") mw_324) (fun _ h9 => h9) rfl d_Mdl_byteOut_12 ?_
    refine lv_iconst (v := 1) hx hb d_Mdl_byteOut_15 (by decide) ?_
    refine lv_isub hx hb d_Mdl_byteOut_16 ?_
    refine lv_dup2_11 hx hb d_Mdl_byteOut_17 rfl rfl ?_
    refine va_iald hx hb hK hP 1 0 rfl rfl (m_lin hM hbg (hcd.resolve_left c1)) d_Mdl_byteOut_18 ?_
    refine lv_iconst (v := 1) hx hb d_Mdl_byteOut_19 (by decide) ?_
    refine lv_iadd hx hb d_Mdl_byteOut_20 ?_
    refine va_iast hx hb hK hP hD hS 1 0 rfl rfl (m_lin hM hbg (hcd.resolve_left c1)) d_Mdl_byteOut_21 (fun H locs hP hD hS => ?_)
    have hP : va_P D vwCl [(h0, .inr (9, [.ref pP, .ref pO, .int th, .int sz, .ref pB, .ref pS, .ref pK, .int op, .int rw, .int bg, .int lo, .int cd, .int wd, .int rm, .int rg, .int rr, .int pl, .int lm, .int nx, .long av, .int sp, .int le, .int la])), (pB, .inl (k.1, 65536, .inl (upd B (sz - 1).toNatClampNeg ((B (sz - 1).toNatClampNeg) + 1))))] H := hP
    have hD : va_D A [(h0, .inr (9, [.ref pP, .ref pO, .int th, .int sz, .ref pB, .ref pS, .ref pK, .int op, .int rw, .int bg, .int lo, .int cd, .int wd, .int rm, .int rg, .int rr, .int pl, .int lm, .int nx, .long av, .int sp, .int le, .int la])), (pB, .inl (k.1, 65536, .inl (upd B (sz - 1).toNatClampNeg ((B (sz - 1).toNatClampNeg) + 1))))] := hD
    generalize hB24 : upd B (sz - 1).toNatClampNeg ((B (sz - 1).toNatClampNeg) + 1) = B24 at hP hD
    have hP : va_P D vwCl [(h0, .inr (9, [.ref pP, .ref pO, .int th, .int sz, .ref pB, .ref pS, .ref pK, .int op, .int rw, .int bg, .int lo, .int cd, .int wd, .int rm, .int rg, .int rr, .int pl, .int lm, .int nx, .long av, .int sp, .int le, .int la])), (pB, .inl (k.1, 65536, .inl B24))] H := hP
    have hD : va_D A [(h0, .inr (9, [.ref pP, .ref pO, .int th, .int sz, .ref pB, .ref pS, .ref pK, .int op, .int rw, .int bg, .int lo, .int cd, .int wd, .int rm, .int rg, .int rr, .int pl, .int lm, .int nx, .long av, .int sp, .int le, .int la])), (pB, .inl (k.1, 65536, .inl B24))] := hD
    have hM2 : row_ok 65536 B24 sz (rs L (nI L.length - 1) (mlast L + 1)) := by rw [← hB24, ← m_lv hM hbg (hcd.resolve_left c1)]; exact m_set hM hbg (hcd.resolve_left c1)
    have hlt2 : (rs L (nI L.length - 1) (mlast L + 1)).length < 65536 := by rw [rs_len]; exact hlt
    refine lv_aload_n hx hb d_Mdl_byteOut_22 rfl (lv_at hl 0 rfl) ?_
    refine lv_iconst (v := 0) hx hb d_Mdl_byteOut_23 (by decide) ?_
    refine va_put (D := D) (ci := 9) (v := .int 0) (ty := .boolean) (C := R_Mdl) (T := T_Mdl) (N := 23) hx hb hts inw_Mdl ty_Mdl tyok_Mdl nm_Mdl hown hK hP hD hS 0 rfl rfl 11 (by decide) (hts (.fieldLink R_Mdl 60 "LikelyBitsModel" "carried" "Z") mw_334) (fun _ h9 => h9) rfl (by decide +kernel) rfl rfl (Nat.le_of_ble_eq_true rfl) d_Mdl_byteOut_24 (fun H locs hP hD hS => ?_)
    have hP : va_P D vwCl [(h0, .inr (9, [.ref pP, .ref pO, .int th, .int sz, .ref pB, .ref pS, .ref pK, .int op, .int rw, .int bg, .int lo, .int 0, .int wd, .int rm, .int rg, .int rr, .int pl, .int lm, .int nx, .long av, .int sp, .int le, .int la])), (pB, .inl (k.1, 65536, .inl B24))] H := hP
    have hD : va_D A [(h0, .inr (9, [.ref pP, .ref pO, .int th, .int sz, .ref pB, .ref pS, .ref pK, .int op, .int rw, .int bg, .int lo, .int 0, .int wd, .int rm, .int rg, .int rr, .int pl, .int lm, .int nx, .long av, .int sp, .int le, .int la])), (pB, .inl (k.1, 65536, .inl B24))] := hD
    refine lv_aload_n hx hb d_Mdl_byteOut_27 rfl (lv_at hl 0 rfl) ?_
    refine lv_aload_n hx hb d_Mdl_byteOut_28 rfl (lv_at hl 0 rfl) ?_
    refine kqi (va_runV (As := []) (rest := [.ref h0]) ⟨hx, hb, hml, hown, hts⟩ (c_M_hasLast l hl9 D k h0 pP pO pB pS pK th sz op rw bg lo 0 wd rm rg rr pl lm nx av sp le la ) (cwV 0 hts (gV mw_328 mw_329 mw_330 mw_331 mw_332) rfl rfl rfl (by decide +kernel) ⟨(Nat.le_of_ble_eq_true rfl), (Nat.le_of_ble_eq_true rfl)⟩) (kRecv (q := (R_Mdl, T_Mdl, 23)) (q0 := 0) (ci := 9) hK hP rfl rfl (kPreR (wc := [(h0, .inr (9, [.ref pP, .ref pO, .int th, .int sz, .ref pB, .ref pS, .ref pK, .int op, .int rw, .int bg, .int lo, .int 0, .int wd, .int rm, .int rg, .int rr, .int pl, .int lm, .int nx, .long av, .int sp, .int le, .int la]))]) hE hK hP hS [0] rfl)) rfl rfl hl.1 rfl (lv_room (Nat.le_of_ble_eq_true rfl)) d_Mdl_byteOut_29 ⟨(Nat.le_of_ble_eq_true rfl), (Nat.le_of_ble_eq_true rfl)⟩) hP hS (fun r25 H locs hw hP hS => ?_)
    replace hw := hw.symm
    subst hw
    refine lv_if_eq (tgt := 57) hx hb d_Mdl_byteOut_32 (by decide) (fun c26 => ?_) (fun c26 => ?_)
    · have hq27 : nI (rs L (nI L.length - 1) (mlast L + 1)).length ≤ bg := by rw [← hM2.1]; exact mhl_eq c26
      refine lv_bipush (v := 8) hx hb d_Mdl_byteOut_57 (by decide) ?_
      refine va_put (D := D) (ci := 9) (v := .int 8) (ty := .int) (C := R_Mdl) (T := T_Mdl) (N := 23) hx hb hts inw_Mdl ty_Mdl tyok_Mdl nm_Mdl hown hK hP hD hS 0 rfl rfl 13 (by decide) (hts (.fieldLink R_Mdl 63 "LikelyBitsModel" "room" "I") mw_335) (fun _ h9 => h9) rfl (by decide +kernel) rfl rfl (Nat.le_of_ble_eq_true rfl) d_Mdl_byteOut_59 (fun H locs hP hD hS => ?_)
      have hP : va_P D vwCl [(h0, .inr (9, [.ref pP, .ref pO, .int th, .int sz, .ref pB, .ref pS, .ref pK, .int op, .int rw, .int bg, .int lo, .int 0, .int wd, .int 8, .int rg, .int rr, .int pl, .int lm, .int nx, .long av, .int sp, .int le, .int la])), (pB, .inl (k.1, 65536, .inl B24))] H := hP
      have hD : va_D A [(h0, .inr (9, [.ref pP, .ref pO, .int th, .int sz, .ref pB, .ref pS, .ref pK, .int op, .int rw, .int bg, .int lo, .int 0, .int wd, .int 8, .int rg, .int rr, .int pl, .int lm, .int nx, .long av, .int sp, .int le, .int la])), (pB, .inl (k.1, 65536, .inl B24))] := hD
      refine lv_bipush (v := 27) hx hb d_Mdl_byteOut_62 (by decide) ?_
      refine lv_aload_n hx hb d_Mdl_byteOut_64 rfl (lv_at hl 0 rfl) ?_
      refine va_get (D := D) (ci := 9) (v := .int 8) (C := R_Mdl) (T := T_Mdl) (N := 23) hx hb hts inw_Mdl hown hK hP 0 rfl rfl 13 (by decide) (hts (.fieldLink R_Mdl 63 "LikelyBitsModel" "room" "I") mw_335) (fun _ h9 => h9) rfl d_Mdl_byteOut_65 ?_
      refine lv_isub hx hb d_Mdl_byteOut_68 ?_
      refine lv_topi (fun x28 ex28 => ?_)
      refine lv_istore_n (lv' := [(1, .int x28), (0, .ref h0)]) hx hb d_Mdl_byteOut_69 rfl hl (by decide) rfl (fun ls hl => ?_)
      refine lv_aload_n hx hb d_Mdl_byteOut_70 rfl (lv_at hl 1 rfl) ?_
      refine va_get (D := D) (ci := 9) (v := .ref pB) (C := R_Mdl) (T := T_Mdl) (N := 23) hx hb hts inw_Mdl hown hK hP 0 rfl rfl 4 (by decide) (hts (.fieldLink R_Mdl 17 "LikelyBitsModel" "bytes" "[I") mw_333) (fun _ h9 => h9) rfl d_Mdl_byteOut_71 ?_
      refine lv_aload_n hx hb d_Mdl_byteOut_74 rfl (lv_at hl 1 rfl) ?_
      refine va_get (D := D) (ci := 9) (v := .int sz) (C := R_Mdl) (T := T_Mdl) (N := 23) hx hb hts inw_Mdl hown hK hP 0 rfl rfl 3 (by decide) (hts (.fieldLink R_Mdl 30 "LikelyBitsModel" "size" "I") mw_324) (fun _ h9 => h9) rfl d_Mdl_byteOut_75 ?_
      refine lv_aload_n hx hb d_Mdl_byteOut_78 rfl (lv_at hl 1 rfl) ?_
      refine va_get (D := D) (ci := 9) (v := .int lo) (C := R_Mdl) (T := T_Mdl) (N := 23) hx hb hts inw_Mdl hown hK hP 0 rfl rfl 10 (by decide) (hts (.fieldLink R_Mdl 73 "LikelyBitsModel" "low" "I") mw_344) (fun _ h9 => h9) rfl d_Mdl_byteOut_79 ?_
      refine lv_iload_n hx hb d_Mdl_byteOut_82 rfl (lv_at hl 0 rfl) ?_
      refine lv_ishr hx hb d_Mdl_byteOut_83 ?_
      refine lv_sipush (v := 255) hx hb d_Mdl_byteOut_84 (by decide) ?_
      refine lv_iand hx hb d_Mdl_byteOut_87 ?_
      refine va_iast hx hb hK hP hD hS 1 0 rfl rfl (m_stin hM2 hlt2) d_Mdl_byteOut_88 (fun H locs hP hD hS => ?_)
      have hP : va_P D vwCl [(h0, .inr (9, [.ref pP, .ref pO, .int th, .int sz, .ref pB, .ref pS, .ref pK, .int op, .int rw, .int bg, .int lo, .int 0, .int wd, .int 8, .int rg, .int rr, .int pl, .int lm, .int nx, .long av, .int sp, .int le, .int la])), (pB, .inl (k.1, 65536, .inl (upd B24 sz.toNatClampNeg ((lo >>> (x28 &&& 31)) &&& 255))))] H := hP
      have hD : va_D A [(h0, .inr (9, [.ref pP, .ref pO, .int th, .int sz, .ref pB, .ref pS, .ref pK, .int op, .int rw, .int bg, .int lo, .int 0, .int wd, .int 8, .int rg, .int rr, .int pl, .int lm, .int nx, .long av, .int sp, .int le, .int la])), (pB, .inl (k.1, 65536, .inl (upd B24 sz.toNatClampNeg ((lo >>> (x28 &&& 31)) &&& 255))))] := hD
      generalize hB30 : upd B24 sz.toNatClampNeg ((lo >>> (x28 &&& 31)) &&& 255) = B30 at hP hD
      have hP : va_P D vwCl [(h0, .inr (9, [.ref pP, .ref pO, .int th, .int sz, .ref pB, .ref pS, .ref pK, .int op, .int rw, .int bg, .int lo, .int 0, .int wd, .int 8, .int rg, .int rr, .int pl, .int lm, .int nx, .long av, .int sp, .int le, .int la])), (pB, .inl (k.1, 65536, .inl B30))] H := hP
      have hD : va_D A [(h0, .inr (9, [.ref pP, .ref pO, .int th, .int sz, .ref pB, .ref pS, .ref pK, .int op, .int rw, .int bg, .int lo, .int 0, .int wd, .int 8, .int rg, .int rr, .int pl, .int lm, .int nx, .long av, .int sp, .int le, .int la])), (pB, .inl (k.1, 65536, .inl B30))] := hD
      have hM29 : row_ok 65536 B30 (sz + 1) ((rs L (nI L.length - 1) (mlast L + 1)) ++ [((lo >>> (x28 &&& 31)) &&& 255)]) := by rw [← hB30]; exact m_app hM2 hlt2
      refine lv_aload_n hx hb d_Mdl_byteOut_89 rfl (lv_at hl 1 rfl) ?_
      refine lv_aload_n hx hb d_Mdl_byteOut_90 rfl (lv_at hl 1 rfl) ?_
      refine va_get (D := D) (ci := 9) (v := .int lo) (C := R_Mdl) (T := T_Mdl) (N := 23) hx hb hts inw_Mdl hown hK hP 0 rfl rfl 10 (by decide) (hts (.fieldLink R_Mdl 73 "LikelyBitsModel" "low" "I") mw_344) (fun _ h9 => h9) rfl d_Mdl_byteOut_91 ?_
      refine lv_iconst (v := 1) hx hb d_Mdl_byteOut_94 (by decide) ?_
      refine lv_iload_n hx hb d_Mdl_byteOut_95 rfl (lv_at hl 0 rfl) ?_
      refine lv_ishl hx hb d_Mdl_byteOut_96 ?_
      refine lv_iconst (v := 1) hx hb d_Mdl_byteOut_97 (by decide) ?_
      refine lv_isub hx hb d_Mdl_byteOut_98 ?_
      refine lv_iand hx hb d_Mdl_byteOut_99 ?_
      refine lv_topi (fun x31 ex31 => ?_)
      refine va_put (D := D) (ci := 9) (v := .int x31) (ty := .int) (C := R_Mdl) (T := T_Mdl) (N := 23) hx hb hts inw_Mdl ty_Mdl tyok_Mdl nm_Mdl hown hK hP hD hS 0 rfl rfl 10 (by decide) (hts (.fieldLink R_Mdl 73 "LikelyBitsModel" "low" "I") mw_344) (fun _ h9 => h9) rfl (by decide +kernel) rfl rfl (Nat.le_of_ble_eq_true rfl) d_Mdl_byteOut_100 (fun H locs hP hD hS => ?_)
      have hP : va_P D vwCl [(h0, .inr (9, [.ref pP, .ref pO, .int th, .int sz, .ref pB, .ref pS, .ref pK, .int op, .int rw, .int bg, .int x31, .int 0, .int wd, .int 8, .int rg, .int rr, .int pl, .int lm, .int nx, .long av, .int sp, .int le, .int la])), (pB, .inl (k.1, 65536, .inl B30))] H := hP
      have hD : va_D A [(h0, .inr (9, [.ref pP, .ref pO, .int th, .int sz, .ref pB, .ref pS, .ref pK, .int op, .int rw, .int bg, .int x31, .int 0, .int wd, .int 8, .int rg, .int rr, .int pl, .int lm, .int nx, .long av, .int sp, .int le, .int la])), (pB, .inl (k.1, 65536, .inl B30))] := hD
      refine lv_aload_n hx hb d_Mdl_byteOut_103 rfl (lv_at hl 1 rfl) ?_
      refine lv_dup hx hb d_Mdl_byteOut_104 rfl ?_
      refine va_get (D := D) (ci := 9) (v := .int sz) (C := R_Mdl) (T := T_Mdl) (N := 23) hx hb hts inw_Mdl hown hK hP 0 rfl rfl 3 (by decide) (hts (.fieldLink R_Mdl 30 "LikelyBitsModel" "size" "I") mw_324) (fun _ h9 => h9) rfl d_Mdl_byteOut_105 ?_
      refine lv_iconst (v := 1) hx hb d_Mdl_byteOut_108 (by decide) ?_
      refine lv_iadd hx hb d_Mdl_byteOut_109 ?_
      refine lv_topi (fun x32 ex32 => ?_)
      refine va_put (D := D) (ci := 9) (v := .int x32) (ty := .int) (C := R_Mdl) (T := T_Mdl) (N := 23) hx hb hts inw_Mdl ty_Mdl tyok_Mdl nm_Mdl hown hK hP hD hS 0 rfl rfl 3 (by decide) (hts (.fieldLink R_Mdl 30 "LikelyBitsModel" "size" "I") mw_324) (fun _ h9 => h9) rfl (by decide +kernel) rfl rfl (Nat.le_of_ble_eq_true rfl) d_Mdl_byteOut_110 (fun H locs hP hD hS => ?_)
      have hP : va_P D vwCl [(h0, .inr (9, [.ref pP, .ref pO, .int th, .int x32, .ref pB, .ref pS, .ref pK, .int op, .int rw, .int bg, .int x31, .int 0, .int wd, .int 8, .int rg, .int rr, .int pl, .int lm, .int nx, .long av, .int sp, .int le, .int la])), (pB, .inl (k.1, 65536, .inl B30))] H := hP
      have hD : va_D A [(h0, .inr (9, [.ref pP, .ref pO, .int th, .int x32, .ref pB, .ref pS, .ref pK, .int op, .int rw, .int bg, .int x31, .int 0, .int wd, .int 8, .int rg, .int rr, .int pl, .int lm, .int nx, .long av, .int sp, .int le, .int la])), (pB, .inl (k.1, 65536, .inl B30))] := hD
      exact krv (wo := wo_M_byteOut k h0 pB pP pO pS pK th sz op rw bg lo cd wd rm rg rr pl lm nx av sp le la B L) hx hb hr hlk hP hD hS (x31, 8, ((rs L (nI L.length - 1) (mlast L + 1)) ++ [((lo >>> (x28 &&& 31)) &&& 255)])) (B30, x32) (by subst ex32; subst ex31; subst ex28; simp [po_M_byteOut, mbo, mb2, mb3, c1, c26, hq27]) (by rw [ex32]; exact hM29) [0, 1] rfl (by decide) (Nat.le_of_ble_eq_true rfl) (Nat.le_of_ble_eq_true rfl) d_Mdl_byteOut_113
    · have hq33 : ¬ nI (rs L (nI L.length - 1) (mlast L + 1)).length ≤ bg := by rw [← hM2.1]; exact mhl_ne c26
      have hq33n := mhl_ne c26
      refine lv_aload_n hx hb d_Mdl_byteOut_35 rfl (lv_at hl 0 rfl) ?_
      refine va_get (D := D) (ci := 9) (v := .ref pB) (C := R_Mdl) (T := T_Mdl) (N := 23) hx hb hts inw_Mdl hown hK hP 0 rfl rfl 4 (by decide) (hts (.fieldLink R_Mdl 17 "LikelyBitsModel" "bytes" "[I") mw_333) (fun _ h9 => h9) rfl d_Mdl_byteOut_36 ?_
      refine lv_aload_n hx hb d_Mdl_byteOut_39 rfl (lv_at hl 0 rfl) ?_
      refine va_get (D := D) (ci := 9) (v := .int sz) (C := R_Mdl) (T := T_Mdl) (N := 23) hx hb hts inw_Mdl hown hK hP 0 rfl rfl 3 (by decide) (hts (.fieldLink R_Mdl 30 "LikelyBitsModel" "size" "I") mw_324) (fun _ h9 => h9) rfl d_Mdl_byteOut_40 ?_
      refine lv_iconst (v := 1) hx hb d_Mdl_byteOut_43 (by decide) ?_
      refine lv_isub hx hb d_Mdl_byteOut_44 ?_
      refine va_iald hx hb hK hP 1 0 rfl rfl (m_lin hM2 hbg (mhl_ne c26)) d_Mdl_byteOut_45 ?_
      refine lv_sipush (v := 255) hx hb d_Mdl_byteOut_46 (by decide) ?_
      refine lv_icmp_ne (tgt := 57) hx hb d_Mdl_byteOut_49 (by decide) (fun c34 => ?_) (fun c34 => ?_)
      · have hq35 : ¬ mlast (rs L (nI L.length - 1) (mlast L + 1)) = 255 := fun q => c34 ((m_lv hM2 hbg (mhl_ne c26)).trans q)
        refine lv_bipush (v := 8) hx hb d_Mdl_byteOut_57 (by decide) ?_
        refine va_put (D := D) (ci := 9) (v := .int 8) (ty := .int) (C := R_Mdl) (T := T_Mdl) (N := 23) hx hb hts inw_Mdl ty_Mdl tyok_Mdl nm_Mdl hown hK hP hD hS 0 rfl rfl 13 (by decide) (hts (.fieldLink R_Mdl 63 "LikelyBitsModel" "room" "I") mw_335) (fun _ h9 => h9) rfl (by decide +kernel) rfl rfl (Nat.le_of_ble_eq_true rfl) d_Mdl_byteOut_59 (fun H locs hP hD hS => ?_)
        have hP : va_P D vwCl [(h0, .inr (9, [.ref pP, .ref pO, .int th, .int sz, .ref pB, .ref pS, .ref pK, .int op, .int rw, .int bg, .int lo, .int 0, .int wd, .int 8, .int rg, .int rr, .int pl, .int lm, .int nx, .long av, .int sp, .int le, .int la])), (pB, .inl (k.1, 65536, .inl B24))] H := hP
        have hD : va_D A [(h0, .inr (9, [.ref pP, .ref pO, .int th, .int sz, .ref pB, .ref pS, .ref pK, .int op, .int rw, .int bg, .int lo, .int 0, .int wd, .int 8, .int rg, .int rr, .int pl, .int lm, .int nx, .long av, .int sp, .int le, .int la])), (pB, .inl (k.1, 65536, .inl B24))] := hD
        refine lv_bipush (v := 27) hx hb d_Mdl_byteOut_62 (by decide) ?_
        refine lv_aload_n hx hb d_Mdl_byteOut_64 rfl (lv_at hl 0 rfl) ?_
        refine va_get (D := D) (ci := 9) (v := .int 8) (C := R_Mdl) (T := T_Mdl) (N := 23) hx hb hts inw_Mdl hown hK hP 0 rfl rfl 13 (by decide) (hts (.fieldLink R_Mdl 63 "LikelyBitsModel" "room" "I") mw_335) (fun _ h9 => h9) rfl d_Mdl_byteOut_65 ?_
        refine lv_isub hx hb d_Mdl_byteOut_68 ?_
        refine lv_topi (fun x36 ex36 => ?_)
        refine lv_istore_n (lv' := [(1, .int x36), (0, .ref h0)]) hx hb d_Mdl_byteOut_69 rfl hl (by decide) rfl (fun ls hl => ?_)
        refine lv_aload_n hx hb d_Mdl_byteOut_70 rfl (lv_at hl 1 rfl) ?_
        refine va_get (D := D) (ci := 9) (v := .ref pB) (C := R_Mdl) (T := T_Mdl) (N := 23) hx hb hts inw_Mdl hown hK hP 0 rfl rfl 4 (by decide) (hts (.fieldLink R_Mdl 17 "LikelyBitsModel" "bytes" "[I") mw_333) (fun _ h9 => h9) rfl d_Mdl_byteOut_71 ?_
        refine lv_aload_n hx hb d_Mdl_byteOut_74 rfl (lv_at hl 1 rfl) ?_
        refine va_get (D := D) (ci := 9) (v := .int sz) (C := R_Mdl) (T := T_Mdl) (N := 23) hx hb hts inw_Mdl hown hK hP 0 rfl rfl 3 (by decide) (hts (.fieldLink R_Mdl 30 "LikelyBitsModel" "size" "I") mw_324) (fun _ h9 => h9) rfl d_Mdl_byteOut_75 ?_
        refine lv_aload_n hx hb d_Mdl_byteOut_78 rfl (lv_at hl 1 rfl) ?_
        refine va_get (D := D) (ci := 9) (v := .int lo) (C := R_Mdl) (T := T_Mdl) (N := 23) hx hb hts inw_Mdl hown hK hP 0 rfl rfl 10 (by decide) (hts (.fieldLink R_Mdl 73 "LikelyBitsModel" "low" "I") mw_344) (fun _ h9 => h9) rfl d_Mdl_byteOut_79 ?_
        refine lv_iload_n hx hb d_Mdl_byteOut_82 rfl (lv_at hl 0 rfl) ?_
        refine lv_ishr hx hb d_Mdl_byteOut_83 ?_
        refine lv_sipush (v := 255) hx hb d_Mdl_byteOut_84 (by decide) ?_
        refine lv_iand hx hb d_Mdl_byteOut_87 ?_
        refine va_iast hx hb hK hP hD hS 1 0 rfl rfl (m_stin hM2 hlt2) d_Mdl_byteOut_88 (fun H locs hP hD hS => ?_)
        have hP : va_P D vwCl [(h0, .inr (9, [.ref pP, .ref pO, .int th, .int sz, .ref pB, .ref pS, .ref pK, .int op, .int rw, .int bg, .int lo, .int 0, .int wd, .int 8, .int rg, .int rr, .int pl, .int lm, .int nx, .long av, .int sp, .int le, .int la])), (pB, .inl (k.1, 65536, .inl (upd B24 sz.toNatClampNeg ((lo >>> (x36 &&& 31)) &&& 255))))] H := hP
        have hD : va_D A [(h0, .inr (9, [.ref pP, .ref pO, .int th, .int sz, .ref pB, .ref pS, .ref pK, .int op, .int rw, .int bg, .int lo, .int 0, .int wd, .int 8, .int rg, .int rr, .int pl, .int lm, .int nx, .long av, .int sp, .int le, .int la])), (pB, .inl (k.1, 65536, .inl (upd B24 sz.toNatClampNeg ((lo >>> (x36 &&& 31)) &&& 255))))] := hD
        generalize hB38 : upd B24 sz.toNatClampNeg ((lo >>> (x36 &&& 31)) &&& 255) = B38 at hP hD
        have hP : va_P D vwCl [(h0, .inr (9, [.ref pP, .ref pO, .int th, .int sz, .ref pB, .ref pS, .ref pK, .int op, .int rw, .int bg, .int lo, .int 0, .int wd, .int 8, .int rg, .int rr, .int pl, .int lm, .int nx, .long av, .int sp, .int le, .int la])), (pB, .inl (k.1, 65536, .inl B38))] H := hP
        have hD : va_D A [(h0, .inr (9, [.ref pP, .ref pO, .int th, .int sz, .ref pB, .ref pS, .ref pK, .int op, .int rw, .int bg, .int lo, .int 0, .int wd, .int 8, .int rg, .int rr, .int pl, .int lm, .int nx, .long av, .int sp, .int le, .int la])), (pB, .inl (k.1, 65536, .inl B38))] := hD
        have hM37 : row_ok 65536 B38 (sz + 1) ((rs L (nI L.length - 1) (mlast L + 1)) ++ [((lo >>> (x36 &&& 31)) &&& 255)]) := by rw [← hB38]; exact m_app hM2 hlt2
        refine lv_aload_n hx hb d_Mdl_byteOut_89 rfl (lv_at hl 1 rfl) ?_
        refine lv_aload_n hx hb d_Mdl_byteOut_90 rfl (lv_at hl 1 rfl) ?_
        refine va_get (D := D) (ci := 9) (v := .int lo) (C := R_Mdl) (T := T_Mdl) (N := 23) hx hb hts inw_Mdl hown hK hP 0 rfl rfl 10 (by decide) (hts (.fieldLink R_Mdl 73 "LikelyBitsModel" "low" "I") mw_344) (fun _ h9 => h9) rfl d_Mdl_byteOut_91 ?_
        refine lv_iconst (v := 1) hx hb d_Mdl_byteOut_94 (by decide) ?_
        refine lv_iload_n hx hb d_Mdl_byteOut_95 rfl (lv_at hl 0 rfl) ?_
        refine lv_ishl hx hb d_Mdl_byteOut_96 ?_
        refine lv_iconst (v := 1) hx hb d_Mdl_byteOut_97 (by decide) ?_
        refine lv_isub hx hb d_Mdl_byteOut_98 ?_
        refine lv_iand hx hb d_Mdl_byteOut_99 ?_
        refine lv_topi (fun x39 ex39 => ?_)
        refine va_put (D := D) (ci := 9) (v := .int x39) (ty := .int) (C := R_Mdl) (T := T_Mdl) (N := 23) hx hb hts inw_Mdl ty_Mdl tyok_Mdl nm_Mdl hown hK hP hD hS 0 rfl rfl 10 (by decide) (hts (.fieldLink R_Mdl 73 "LikelyBitsModel" "low" "I") mw_344) (fun _ h9 => h9) rfl (by decide +kernel) rfl rfl (Nat.le_of_ble_eq_true rfl) d_Mdl_byteOut_100 (fun H locs hP hD hS => ?_)
        have hP : va_P D vwCl [(h0, .inr (9, [.ref pP, .ref pO, .int th, .int sz, .ref pB, .ref pS, .ref pK, .int op, .int rw, .int bg, .int x39, .int 0, .int wd, .int 8, .int rg, .int rr, .int pl, .int lm, .int nx, .long av, .int sp, .int le, .int la])), (pB, .inl (k.1, 65536, .inl B38))] H := hP
        have hD : va_D A [(h0, .inr (9, [.ref pP, .ref pO, .int th, .int sz, .ref pB, .ref pS, .ref pK, .int op, .int rw, .int bg, .int x39, .int 0, .int wd, .int 8, .int rg, .int rr, .int pl, .int lm, .int nx, .long av, .int sp, .int le, .int la])), (pB, .inl (k.1, 65536, .inl B38))] := hD
        refine lv_aload_n hx hb d_Mdl_byteOut_103 rfl (lv_at hl 1 rfl) ?_
        refine lv_dup hx hb d_Mdl_byteOut_104 rfl ?_
        refine va_get (D := D) (ci := 9) (v := .int sz) (C := R_Mdl) (T := T_Mdl) (N := 23) hx hb hts inw_Mdl hown hK hP 0 rfl rfl 3 (by decide) (hts (.fieldLink R_Mdl 30 "LikelyBitsModel" "size" "I") mw_324) (fun _ h9 => h9) rfl d_Mdl_byteOut_105 ?_
        refine lv_iconst (v := 1) hx hb d_Mdl_byteOut_108 (by decide) ?_
        refine lv_iadd hx hb d_Mdl_byteOut_109 ?_
        refine lv_topi (fun x40 ex40 => ?_)
        refine va_put (D := D) (ci := 9) (v := .int x40) (ty := .int) (C := R_Mdl) (T := T_Mdl) (N := 23) hx hb hts inw_Mdl ty_Mdl tyok_Mdl nm_Mdl hown hK hP hD hS 0 rfl rfl 3 (by decide) (hts (.fieldLink R_Mdl 30 "LikelyBitsModel" "size" "I") mw_324) (fun _ h9 => h9) rfl (by decide +kernel) rfl rfl (Nat.le_of_ble_eq_true rfl) d_Mdl_byteOut_110 (fun H locs hP hD hS => ?_)
        have hP : va_P D vwCl [(h0, .inr (9, [.ref pP, .ref pO, .int th, .int x40, .ref pB, .ref pS, .ref pK, .int op, .int rw, .int bg, .int x39, .int 0, .int wd, .int 8, .int rg, .int rr, .int pl, .int lm, .int nx, .long av, .int sp, .int le, .int la])), (pB, .inl (k.1, 65536, .inl B38))] H := hP
        have hD : va_D A [(h0, .inr (9, [.ref pP, .ref pO, .int th, .int x40, .ref pB, .ref pS, .ref pK, .int op, .int rw, .int bg, .int x39, .int 0, .int wd, .int 8, .int rg, .int rr, .int pl, .int lm, .int nx, .long av, .int sp, .int le, .int la])), (pB, .inl (k.1, 65536, .inl B38))] := hD
        exact krv (wo := wo_M_byteOut k h0 pB pP pO pS pK th sz op rw bg lo cd wd rm rg rr pl lm nx av sp le la B L) hx hb hr hlk hP hD hS (x39, 8, ((rs L (nI L.length - 1) (mlast L + 1)) ++ [((lo >>> (x36 &&& 31)) &&& 255)])) (B38, x40) (by subst ex40; subst ex39; subst ex36; simp [po_M_byteOut, mbo, mb2, mb3, c1, c26, c34, hq33, hq35]) (by rw [ex40]; exact hM37) [0, 1] rfl (by decide) (Nat.le_of_ble_eq_true rfl) (Nat.le_of_ble_eq_true rfl) d_Mdl_byteOut_113
      · have hq41 : mlast (rs L (nI L.length - 1) (mlast L + 1)) = 255 := (m_lv hM2 hbg (mhl_ne c26)).symm.trans c34
        refine lv_bipush (v := 7) hx hb d_Mdl_byteOut_52 (by decide) ?_
        refine lv_goto (tgt := 59) hx hb d_Mdl_byteOut_54 (by decide) ?_
        refine va_put (D := D) (ci := 9) (v := .int 7) (ty := .int) (C := R_Mdl) (T := T_Mdl) (N := 23) hx hb hts inw_Mdl ty_Mdl tyok_Mdl nm_Mdl hown hK hP hD hS 0 rfl rfl 13 (by decide) (hts (.fieldLink R_Mdl 63 "LikelyBitsModel" "room" "I") mw_335) (fun _ h9 => h9) rfl (by decide +kernel) rfl rfl (Nat.le_of_ble_eq_true rfl) d_Mdl_byteOut_59 (fun H locs hP hD hS => ?_)
        have hP : va_P D vwCl [(h0, .inr (9, [.ref pP, .ref pO, .int th, .int sz, .ref pB, .ref pS, .ref pK, .int op, .int rw, .int bg, .int lo, .int 0, .int wd, .int 7, .int rg, .int rr, .int pl, .int lm, .int nx, .long av, .int sp, .int le, .int la])), (pB, .inl (k.1, 65536, .inl B24))] H := hP
        have hD : va_D A [(h0, .inr (9, [.ref pP, .ref pO, .int th, .int sz, .ref pB, .ref pS, .ref pK, .int op, .int rw, .int bg, .int lo, .int 0, .int wd, .int 7, .int rg, .int rr, .int pl, .int lm, .int nx, .long av, .int sp, .int le, .int la])), (pB, .inl (k.1, 65536, .inl B24))] := hD
        refine lv_bipush (v := 27) hx hb d_Mdl_byteOut_62 (by decide) ?_
        refine lv_aload_n hx hb d_Mdl_byteOut_64 rfl (lv_at hl 0 rfl) ?_
        refine va_get (D := D) (ci := 9) (v := .int 7) (C := R_Mdl) (T := T_Mdl) (N := 23) hx hb hts inw_Mdl hown hK hP 0 rfl rfl 13 (by decide) (hts (.fieldLink R_Mdl 63 "LikelyBitsModel" "room" "I") mw_335) (fun _ h9 => h9) rfl d_Mdl_byteOut_65 ?_
        refine lv_isub hx hb d_Mdl_byteOut_68 ?_
        refine lv_topi (fun x42 ex42 => ?_)
        refine lv_istore_n (lv' := [(1, .int x42), (0, .ref h0)]) hx hb d_Mdl_byteOut_69 rfl hl (by decide) rfl (fun ls hl => ?_)
        refine lv_aload_n hx hb d_Mdl_byteOut_70 rfl (lv_at hl 1 rfl) ?_
        refine va_get (D := D) (ci := 9) (v := .ref pB) (C := R_Mdl) (T := T_Mdl) (N := 23) hx hb hts inw_Mdl hown hK hP 0 rfl rfl 4 (by decide) (hts (.fieldLink R_Mdl 17 "LikelyBitsModel" "bytes" "[I") mw_333) (fun _ h9 => h9) rfl d_Mdl_byteOut_71 ?_
        refine lv_aload_n hx hb d_Mdl_byteOut_74 rfl (lv_at hl 1 rfl) ?_
        refine va_get (D := D) (ci := 9) (v := .int sz) (C := R_Mdl) (T := T_Mdl) (N := 23) hx hb hts inw_Mdl hown hK hP 0 rfl rfl 3 (by decide) (hts (.fieldLink R_Mdl 30 "LikelyBitsModel" "size" "I") mw_324) (fun _ h9 => h9) rfl d_Mdl_byteOut_75 ?_
        refine lv_aload_n hx hb d_Mdl_byteOut_78 rfl (lv_at hl 1 rfl) ?_
        refine va_get (D := D) (ci := 9) (v := .int lo) (C := R_Mdl) (T := T_Mdl) (N := 23) hx hb hts inw_Mdl hown hK hP 0 rfl rfl 10 (by decide) (hts (.fieldLink R_Mdl 73 "LikelyBitsModel" "low" "I") mw_344) (fun _ h9 => h9) rfl d_Mdl_byteOut_79 ?_
        refine lv_iload_n hx hb d_Mdl_byteOut_82 rfl (lv_at hl 0 rfl) ?_
        refine lv_ishr hx hb d_Mdl_byteOut_83 ?_
        refine lv_sipush (v := 255) hx hb d_Mdl_byteOut_84 (by decide) ?_
        refine lv_iand hx hb d_Mdl_byteOut_87 ?_
        refine va_iast hx hb hK hP hD hS 1 0 rfl rfl (m_stin hM2 hlt2) d_Mdl_byteOut_88 (fun H locs hP hD hS => ?_)
        have hP : va_P D vwCl [(h0, .inr (9, [.ref pP, .ref pO, .int th, .int sz, .ref pB, .ref pS, .ref pK, .int op, .int rw, .int bg, .int lo, .int 0, .int wd, .int 7, .int rg, .int rr, .int pl, .int lm, .int nx, .long av, .int sp, .int le, .int la])), (pB, .inl (k.1, 65536, .inl (upd B24 sz.toNatClampNeg ((lo >>> (x42 &&& 31)) &&& 255))))] H := hP
        have hD : va_D A [(h0, .inr (9, [.ref pP, .ref pO, .int th, .int sz, .ref pB, .ref pS, .ref pK, .int op, .int rw, .int bg, .int lo, .int 0, .int wd, .int 7, .int rg, .int rr, .int pl, .int lm, .int nx, .long av, .int sp, .int le, .int la])), (pB, .inl (k.1, 65536, .inl (upd B24 sz.toNatClampNeg ((lo >>> (x42 &&& 31)) &&& 255))))] := hD
        generalize hB44 : upd B24 sz.toNatClampNeg ((lo >>> (x42 &&& 31)) &&& 255) = B44 at hP hD
        have hP : va_P D vwCl [(h0, .inr (9, [.ref pP, .ref pO, .int th, .int sz, .ref pB, .ref pS, .ref pK, .int op, .int rw, .int bg, .int lo, .int 0, .int wd, .int 7, .int rg, .int rr, .int pl, .int lm, .int nx, .long av, .int sp, .int le, .int la])), (pB, .inl (k.1, 65536, .inl B44))] H := hP
        have hD : va_D A [(h0, .inr (9, [.ref pP, .ref pO, .int th, .int sz, .ref pB, .ref pS, .ref pK, .int op, .int rw, .int bg, .int lo, .int 0, .int wd, .int 7, .int rg, .int rr, .int pl, .int lm, .int nx, .long av, .int sp, .int le, .int la])), (pB, .inl (k.1, 65536, .inl B44))] := hD
        have hM43 : row_ok 65536 B44 (sz + 1) ((rs L (nI L.length - 1) (mlast L + 1)) ++ [((lo >>> (x42 &&& 31)) &&& 255)]) := by rw [← hB44]; exact m_app hM2 hlt2
        refine lv_aload_n hx hb d_Mdl_byteOut_89 rfl (lv_at hl 1 rfl) ?_
        refine lv_aload_n hx hb d_Mdl_byteOut_90 rfl (lv_at hl 1 rfl) ?_
        refine va_get (D := D) (ci := 9) (v := .int lo) (C := R_Mdl) (T := T_Mdl) (N := 23) hx hb hts inw_Mdl hown hK hP 0 rfl rfl 10 (by decide) (hts (.fieldLink R_Mdl 73 "LikelyBitsModel" "low" "I") mw_344) (fun _ h9 => h9) rfl d_Mdl_byteOut_91 ?_
        refine lv_iconst (v := 1) hx hb d_Mdl_byteOut_94 (by decide) ?_
        refine lv_iload_n hx hb d_Mdl_byteOut_95 rfl (lv_at hl 0 rfl) ?_
        refine lv_ishl hx hb d_Mdl_byteOut_96 ?_
        refine lv_iconst (v := 1) hx hb d_Mdl_byteOut_97 (by decide) ?_
        refine lv_isub hx hb d_Mdl_byteOut_98 ?_
        refine lv_iand hx hb d_Mdl_byteOut_99 ?_
        refine lv_topi (fun x45 ex45 => ?_)
        refine va_put (D := D) (ci := 9) (v := .int x45) (ty := .int) (C := R_Mdl) (T := T_Mdl) (N := 23) hx hb hts inw_Mdl ty_Mdl tyok_Mdl nm_Mdl hown hK hP hD hS 0 rfl rfl 10 (by decide) (hts (.fieldLink R_Mdl 73 "LikelyBitsModel" "low" "I") mw_344) (fun _ h9 => h9) rfl (by decide +kernel) rfl rfl (Nat.le_of_ble_eq_true rfl) d_Mdl_byteOut_100 (fun H locs hP hD hS => ?_)
        have hP : va_P D vwCl [(h0, .inr (9, [.ref pP, .ref pO, .int th, .int sz, .ref pB, .ref pS, .ref pK, .int op, .int rw, .int bg, .int x45, .int 0, .int wd, .int 7, .int rg, .int rr, .int pl, .int lm, .int nx, .long av, .int sp, .int le, .int la])), (pB, .inl (k.1, 65536, .inl B44))] H := hP
        have hD : va_D A [(h0, .inr (9, [.ref pP, .ref pO, .int th, .int sz, .ref pB, .ref pS, .ref pK, .int op, .int rw, .int bg, .int x45, .int 0, .int wd, .int 7, .int rg, .int rr, .int pl, .int lm, .int nx, .long av, .int sp, .int le, .int la])), (pB, .inl (k.1, 65536, .inl B44))] := hD
        refine lv_aload_n hx hb d_Mdl_byteOut_103 rfl (lv_at hl 1 rfl) ?_
        refine lv_dup hx hb d_Mdl_byteOut_104 rfl ?_
        refine va_get (D := D) (ci := 9) (v := .int sz) (C := R_Mdl) (T := T_Mdl) (N := 23) hx hb hts inw_Mdl hown hK hP 0 rfl rfl 3 (by decide) (hts (.fieldLink R_Mdl 30 "LikelyBitsModel" "size" "I") mw_324) (fun _ h9 => h9) rfl d_Mdl_byteOut_105 ?_
        refine lv_iconst (v := 1) hx hb d_Mdl_byteOut_108 (by decide) ?_
        refine lv_iadd hx hb d_Mdl_byteOut_109 ?_
        refine lv_topi (fun x46 ex46 => ?_)
        refine va_put (D := D) (ci := 9) (v := .int x46) (ty := .int) (C := R_Mdl) (T := T_Mdl) (N := 23) hx hb hts inw_Mdl ty_Mdl tyok_Mdl nm_Mdl hown hK hP hD hS 0 rfl rfl 3 (by decide) (hts (.fieldLink R_Mdl 30 "LikelyBitsModel" "size" "I") mw_324) (fun _ h9 => h9) rfl (by decide +kernel) rfl rfl (Nat.le_of_ble_eq_true rfl) d_Mdl_byteOut_110 (fun H locs hP hD hS => ?_)
        have hP : va_P D vwCl [(h0, .inr (9, [.ref pP, .ref pO, .int th, .int x46, .ref pB, .ref pS, .ref pK, .int op, .int rw, .int bg, .int x45, .int 0, .int wd, .int 7, .int rg, .int rr, .int pl, .int lm, .int nx, .long av, .int sp, .int le, .int la])), (pB, .inl (k.1, 65536, .inl B44))] H := hP
        have hD : va_D A [(h0, .inr (9, [.ref pP, .ref pO, .int th, .int x46, .ref pB, .ref pS, .ref pK, .int op, .int rw, .int bg, .int x45, .int 0, .int wd, .int 7, .int rg, .int rr, .int pl, .int lm, .int nx, .long av, .int sp, .int le, .int la])), (pB, .inl (k.1, 65536, .inl B44))] := hD
        exact krv (wo := wo_M_byteOut k h0 pB pP pO pS pK th sz op rw bg lo cd wd rm rg rr pl lm nx av sp le la B L) hx hb hr hlk hP hD hS (x45, 7, ((rs L (nI L.length - 1) (mlast L + 1)) ++ [((lo >>> (x42 &&& 31)) &&& 255)])) (B44, x46) (by subst ex46; subst ex45; subst ex42; simp [po_M_byteOut, mbo, mb2, mb3, c1, c26, c34, hq33, hq41]) (by rw [ex46]; exact hM43) [0, 1] rfl (by decide) (Nat.le_of_ble_eq_true rfl) (Nat.le_of_ble_eq_true rfl) d_Mdl_byteOut_113

def wo_M_push (k : gK) (h0 pB : Nat) (pP : Nat) (pO : Nat) (pS : Nat) (pK : Nat) (th : Int32) (sz : Int32) (op : Int32) (rw : Int32) (bg : Int32) (lo : Int32) (cd : Int32) (wd : Int32) (rm : Int32) (rg : Int32) (rr : Int32) (pl : Int32) (lm : Int32) (nx : Int32) (av : Int64) (sp : Int32) (le : Int32) (la : Int32) (B : Nat → Int32) (L : List Int32) (zz : (Nat → Int32) × Int32) (uu : Int32 × Int32 × List Int32) : va_W := match zz, uu with
  | (B2, sz2), (lo2, rm2, L2) => [(h0, .inr (9, [.ref pP, .ref pO, .int th, .int sz2, .ref pB, .ref pS, .ref pK, .int op, .int rw, .int bg, .int lo2, .int 0, .int wd, .int rm2, .int rg, .int rr, .int pl, .int lm, .int nx, .long av, .int sp, .int le, .int la])), (pB, .inl (k.1, 65536, .inl B2))]
def ex_M_push (k : gK) (h0 pB : Nat) (pP : Nat) (pO : Nat) (pS : Nat) (pK : Nat) (th : Int32) (sz : Int32) (op : Int32) (rw : Int32) (bg : Int32) (lo : Int32) (cd : Int32) (wd : Int32) (rm : Int32) (rg : Int32) (rr : Int32) (pl : Int32) (lm : Int32) (nx : Int32) (av : Int64) (sp : Int32) (le : Int32) (la : Int32) (B : Nat → Int32) (L : List Int32) (zz : (Nat → Int32) × Int32) (uu : Int32 × Int32 × List Int32) : Prop := match zz, uu with
  | (B2, sz2), (lo2, rm2, L2) => row_ok 65536 B2 sz2 L2
def po_M_push (k : gK) (h0 pB : Nat) (pP : Nat) (pO : Nat) (pS : Nat) (pK : Nat) (th : Int32) (sz : Int32) (op : Int32) (rw : Int32) (bg : Int32) (lo : Int32) (cd : Int32) (wd : Int32) (rm : Int32) (rg : Int32) (rr : Int32) (pl : Int32) (lm : Int32) (nx : Int32) (av : Int64) (sp : Int32) (le : Int32) (la : Int32) (B : Nat → Int32) (L : List Int32) (uu : Int32 × Int32 × List Int32) : Prop := match uu with
  | (lo2, rm2, L2) => lo2 = (mbo bg (lo <<< (rm &&& 31)) cd L).1 ∧ rm2 = (mbo bg (lo <<< (rm &&& 31)) cd L).2.1 ∧ L2 = (mbo bg (lo <<< (rm &&& 31)) cd L).2.2
def qc_M_push (D : va_G) (k : gK) (h0 pB : Nat) (pP : Nat) (pO : Nat) (pS : Nat) (pK : Nat) (th : Int32) (sz : Int32) (op : Int32) (rw : Int32) (bg : Int32) (lo : Int32) (cd : Int32) (wd : Int32) (rm : Int32) (rg : Int32) (rr : Int32) (pl : Int32) (lm : Int32) (nx : Int32) (av : Int64) (sp : Int32) (le : Int32) (la : Int32) (B : Nat → Int32) (L : List Int32) (A : Nat → Prop) : Array Value → State → Outcome → State → Prop := va_Qv (po_M_push k h0 pB pP pO pS pK th sz op rw bg lo cd wd rm rg rr pl lm nx av sp le la B L) (fun uu t => ∃ zz, ex_M_push k h0 pB pP pO pS pK th sz op rw bg lo cd wd rm rg rr pl lm nx av sp le la B L zz uu ∧ GP D A (wo_M_push k h0 pB pP pO pS pK th sz op rw bg lo cd wd rm rg rr pl lm nx av sp le la B L zz uu) t) A
set_option maxHeartbeats 1000000 in
set_option maxRecDepth 100000 in
theorem c_M_push (l : Launch) (hl9 : l.stackTraces = false) (D : va_G) (k : gK) (h0 pB : Nat) (zsz : Nat) (pP : Nat) (pO : Nat) (pS : Nat) (pK : Nat) (th : Int32) (sz : Int32) (op : Int32) (rw : Int32) (bg : Int32) (lo : Int32) (cd : Int32) (wd : Int32) (rm : Int32) (rg : Int32) (rr : Int32) (pl : Int32) (lm : Int32) (nx : Int32) (av : Int64) (sp : Int32) (le : Int32) (la : Int32) (B : Nat → Int32) (L : List Int32) (hM : row_ok 65536 B sz L) (hbg : ¬ bg < 0) (hlt : L.length < 65536) (hcd : cd = 0 ∨ ¬ sz ≤ bg) : Met l y_Mdl_push (.code y_Mdl_push b_Mdl_push 1 none :: AW) ({ frames := 2, cells := 0, slots := 0, locals := 41 }) (va_Pc [.ref h0] (GG D k [(h0, .inr (9, [.ref pP, .ref pO, .int th, .int sz, .ref pB, .ref pS, .ref pK, .int op, .int rw, .int bg, .int lo, .int cd, .int wd, .int rm, .int rg, .int rr, .int pl, .int lm, .int nx, .long av, .int sp, .int le, .int la])), (pB, .inl (k.1, 65536, .inl B))] zsz)) (qc_M_push D k h0 pB pP pO pS pK th sz op rw bg lo cd wd rm rg rr pl lm nx av sp le la B L (va_A [(h0, .inr (9, [.ref pP, .ref pO, .int th, .int sz, .ref pB, .ref pS, .ref pK, .int op, .int rw, .int bg, .int lo, .int cd, .int wd, .int rm, .int rg, .int rr, .int pl, .int lm, .int nx, .long av, .int sp, .int le, .int la])), (pB, .inl (k.1, 65536, .inl B))] zsz)) 0 0 (va_A [(h0, .inr (9, [.ref pP, .ref pO, .int th, .int sz, .ref pB, .ref pS, .ref pK, .int op, .int rw, .int bg, .int lo, .int cd, .int wd, .int rm, .int rg, .int rr, .int pl, .int lm, .int nx, .long av, .int sp, .int le, .int la])), (pB, .inl (k.1, 65536, .inl B))] zsz) := by
  refine kMet (ws := [(h0, .inr (9, [.ref pP, .ref pO, .int th, .int sz, .ref pB, .ref pS, .ref pK, .int op, .int rw, .int bg, .int lo, .int cd, .int wd, .int rm, .int rg, .int rr, .int pl, .int lm, .int nx, .long av, .int sp, .int le, .int la])), (pB, .inl (k.1, 65536, .inl B))]) (Qc := qc_M_push D k h0 pB pP pO pS pK th sz op rw bg lo cd wd rm rg rr pl lm nx av sp le la B L) (by decide) (Nat.le_of_ble_eq_true rfl) (fun p e s m below meth c ls A H Cc hP hD hA hS hl => ?_)
  obtain ⟨hx, hb, hml, hr, hlk, hown, hts, hK, hE, hin⟩ := Cc
  have hl : lv_has ls 1 [(0, .ref h0)] := hl
  refine lv_aload_n hx hb d_Mdl_push_0 rfl (lv_at hl 0 rfl) ?_
  refine lv_aload_n hx hb d_Mdl_push_1 rfl (lv_at hl 0 rfl) ?_
  refine va_get (D := D) (ci := 9) (v := .int lo) (C := R_Mdl) (T := T_Mdl) (N := 23) hx hb hts inw_Mdl hown hK hP 0 rfl rfl 10 (by decide) (hts (.fieldLink R_Mdl 73 "LikelyBitsModel" "low" "I") mw_344) (fun _ h9 => h9) rfl d_Mdl_push_2 ?_
  refine lv_aload_n hx hb d_Mdl_push_5 rfl (lv_at hl 0 rfl) ?_
  refine va_get (D := D) (ci := 9) (v := .int rm) (C := R_Mdl) (T := T_Mdl) (N := 23) hx hb hts inw_Mdl hown hK hP 0 rfl rfl 13 (by decide) (hts (.fieldLink R_Mdl 63 "LikelyBitsModel" "room" "I") mw_335) (fun _ h9 => h9) rfl d_Mdl_push_6 ?_
  refine lv_ishl hx hb d_Mdl_push_9 ?_
  refine lv_topi (fun x1 ex1 => ?_)
  refine va_put (D := D) (ci := 9) (v := .int x1) (ty := .int) (C := R_Mdl) (T := T_Mdl) (N := 23) hx hb hts inw_Mdl ty_Mdl tyok_Mdl nm_Mdl hown hK hP hD hS 0 rfl rfl 10 (by decide) (hts (.fieldLink R_Mdl 73 "LikelyBitsModel" "low" "I") mw_344) (fun _ h9 => h9) rfl (by decide +kernel) rfl rfl (Nat.le_of_ble_eq_true rfl) d_Mdl_push_10 (fun H locs hP hD hS => ?_)
  have hP : va_P D vwCl [(h0, .inr (9, [.ref pP, .ref pO, .int th, .int sz, .ref pB, .ref pS, .ref pK, .int op, .int rw, .int bg, .int x1, .int cd, .int wd, .int rm, .int rg, .int rr, .int pl, .int lm, .int nx, .long av, .int sp, .int le, .int la])), (pB, .inl (k.1, 65536, .inl B))] H := hP
  have hD : va_D A [(h0, .inr (9, [.ref pP, .ref pO, .int th, .int sz, .ref pB, .ref pS, .ref pK, .int op, .int rw, .int bg, .int x1, .int cd, .int wd, .int rm, .int rg, .int rr, .int pl, .int lm, .int nx, .long av, .int sp, .int le, .int la])), (pB, .inl (k.1, 65536, .inl B))] := hD
  refine lv_aload_n hx hb d_Mdl_push_13 rfl (lv_at hl 0 rfl) ?_
  refine kcv (wc := [(h0, .inr (9, [.ref pP, .ref pO, .int th, .int sz, .ref pB, .ref pS, .ref pK, .int op, .int rw, .int bg, .int x1, .int cd, .int wd, .int rm, .int rg, .int rr, .int pl, .int lm, .int nx, .long av, .int sp, .int le, .int la])), (pB, .inl (k.1, 65536, .inl B))]) (wr := []) (va_runV (As := []) (rest := []) ⟨hx, hb, hml, hown, hts⟩ (c_M_byteOut l hl9 D k h0 pB H.size pP pO pS pK th sz op rw bg x1 cd wd rm rg rr pl lm nx av sp le la B L (by assumption) (by assumption) (by assumption) (by assumption)) (cwV 0 hts (gV mw_345 mw_346 mw_347 mw_331 mw_348) rfl rfl rfl (by decide +kernel) ⟨(Nat.le_of_ble_eq_true rfl), (Nat.le_of_ble_eq_true rfl)⟩) (kRecv (q := (R_Mdl, T_Mdl, 23)) (q0 := 0) (ci := 9) hK hP rfl rfl (kPre (wc := [(h0, .inr (9, [.ref pP, .ref pO, .int th, .int sz, .ref pB, .ref pS, .ref pK, .int op, .int rw, .int bg, .int x1, .int cd, .int wd, .int rm, .int rg, .int rr, .int pl, .int lm, .int nx, .long av, .int sp, .int le, .int la])), (pB, .inl (k.1, 65536, .inl B))]) hE hK hP hD hS hA [0, 1] rfl (by decide))) rfl rfl hl.1 rfl (lv_room (Nat.le_of_ble_eq_true rfl)) d_Mdl_push_14 ⟨(Nat.le_of_ble_eq_true rfl), (Nat.le_of_ble_eq_true rfl)⟩) hP hD hS hA [0, 1] [] rfl rfl (by decide) (by decide) (fun zz uu H locs hw8 hz9 hP hD hS => ?_)
  obtain ⟨B_5, sz_6⟩ := zz
  obtain ⟨lo_2, rm_3, L_4⟩ := uu
  have hw8 : lo_2 = (mbo bg x1 cd L).1 ∧ rm_3 = (mbo bg x1 cd L).2.1 ∧ L_4 = (mbo bg x1 cd L).2.2 := hw8
  have hz9 : row_ok 65536 B_5 sz_6 L_4 := hz9
  have hP : va_P D vwCl [(h0, .inr (9, [.ref pP, .ref pO, .int th, .int sz_6, .ref pB, .ref pS, .ref pK, .int op, .int rw, .int bg, .int lo_2, .int 0, .int wd, .int rm_3, .int rg, .int rr, .int pl, .int lm, .int nx, .long av, .int sp, .int le, .int la])), (pB, .inl (k.1, 65536, .inl B_5))] H := hP
  have hD : va_D A [(h0, .inr (9, [.ref pP, .ref pO, .int th, .int sz_6, .ref pB, .ref pS, .ref pK, .int op, .int rw, .int bg, .int lo_2, .int 0, .int wd, .int rm_3, .int rg, .int rr, .int pl, .int lm, .int nx, .long av, .int sp, .int le, .int la])), (pB, .inl (k.1, 65536, .inl B_5))] := hD
  exact krv (wo := wo_M_push k h0 pB pP pO pS pK th sz op rw bg lo cd wd rm rg rr pl lm nx av sp le la B L) hx hb hr hlk hP hD hS (lo_2, rm_3, L_4) (B_5, sz_6) (by obtain ⟨rfl, rfl, rfl⟩ := hw8; subst ex1; simp [po_M_push]) (by assumption) [0, 1] rfl (by decide) (Nat.le_of_ble_eq_true rfl) (Nat.le_of_ble_eq_true rfl) d_Mdl_push_17

def wo_M_change (k : gK) (h0 pO pS pK : Nat) (pP : Nat) (pB : Nat) (th : Int32) (sz : Int32) (op : Int32) (rw : Int32) (bg : Int32) (lo : Int32) (cd : Int32) (wd : Int32) (rm : Int32) (rg : Int32) (rr : Int32) (pl : Int32) (lm : Int32) (nx : Int32) (av : Int64) (sp : Int32) (le : Int32) (la : Int32) (O : Nat → Int32) (S : Nat → Int32) (K : Nat → Int32) (x : Int32) (y : Int32) (zz : Unit) (uu : (Nat → Int32) × (Nat → Int32)) : va_W := match zz, uu with
  | _, (S2, K2) => [(h0, .inr (9, [.ref pP, .ref pO, .int th, .int sz, .ref pB, .ref pS, .ref pK, .int op, .int rw, .int bg, .int lo, .int cd, .int wd, .int rm, .int rg, .int rr, .int pl, .int lm, .int nx, .long av, .int sp, .int le, .int la])), (pO, .inl (k.1, 47, .inl O)), (pS, .inl (k.1, 38, .inl S2)), (pK, .inl (k.1, 38, .inl K2))]
def ex_M_change (k : gK) (h0 pO pS pK : Nat) (pP : Nat) (pB : Nat) (th : Int32) (sz : Int32) (op : Int32) (rw : Int32) (bg : Int32) (lo : Int32) (cd : Int32) (wd : Int32) (rm : Int32) (rg : Int32) (rr : Int32) (pl : Int32) (lm : Int32) (nx : Int32) (av : Int64) (sp : Int32) (le : Int32) (la : Int32) (O : Nat → Int32) (S : Nat → Int32) (K : Nat → Int32) (x : Int32) (y : Int32) (zz : Unit) (uu : (Nat → Int32) × (Nat → Int32)) : Prop := match zz, uu with
  | _, (S2, K2) => True
def po_M_change (k : gK) (h0 pO pS pK : Nat) (pP : Nat) (pB : Nat) (th : Int32) (sz : Int32) (op : Int32) (rw : Int32) (bg : Int32) (lo : Int32) (cd : Int32) (wd : Int32) (rm : Int32) (rg : Int32) (rr : Int32) (pl : Int32) (lm : Int32) (nx : Int32) (av : Int64) (sp : Int32) (le : Int32) (la : Int32) (O : Nat → Int32) (S : Nat → Int32) (K : Nat → Int32) (x : Int32) (y : Int32) (uu : (Nat → Int32) × (Nat → Int32)) : Prop := match uu with
  | (S2, K2) => S2 = (mch S K O x y).1 ∧ K2 = (mch S K O x y).2
def qc_M_change (D : va_G) (k : gK) (h0 pO pS pK : Nat) (pP : Nat) (pB : Nat) (th : Int32) (sz : Int32) (op : Int32) (rw : Int32) (bg : Int32) (lo : Int32) (cd : Int32) (wd : Int32) (rm : Int32) (rg : Int32) (rr : Int32) (pl : Int32) (lm : Int32) (nx : Int32) (av : Int64) (sp : Int32) (le : Int32) (la : Int32) (O : Nat → Int32) (S : Nat → Int32) (K : Nat → Int32) (x : Int32) (y : Int32) (A : Nat → Prop) : Array Value → State → Outcome → State → Prop := va_Qv (po_M_change k h0 pO pS pK pP pB th sz op rw bg lo cd wd rm rg rr pl lm nx av sp le la O S K x y) (fun uu t => ∃ zz, ex_M_change k h0 pO pS pK pP pB th sz op rw bg lo cd wd rm rg rr pl lm nx av sp le la O S K x y zz uu ∧ GP D A (wo_M_change k h0 pO pS pK pP pB th sz op rw bg lo cd wd rm rg rr pl lm nx av sp le la O S K x y zz uu) t) A
set_option maxHeartbeats 1000000 in
set_option maxRecDepth 100000 in
theorem c_M_change (l : Launch) (hl9 : l.stackTraces = false) (D : va_G) (k : gK) (h0 pO pS pK : Nat) (zsz : Nat) (pP : Nat) (pB : Nat) (th : Int32) (sz : Int32) (op : Int32) (rw : Int32) (bg : Int32) (lo : Int32) (cd : Int32) (wd : Int32) (rm : Int32) (rg : Int32) (rr : Int32) (pl : Int32) (lm : Int32) (nx : Int32) (av : Int64) (sp : Int32) (le : Int32) (la : Int32) (O : Nat → Int32) (S : Nat → Int32) (K : Nat → Int32) (x : Int32) (y : Int32) (hat : vp_in x 38) (hst : vp_in (S x.toNatClampNeg) 47) : Met l y_Mdl_change (.code y_Mdl_change b_Mdl_change 4 none :: AW) ({ frames := 1, cells := 0, slots := 0, locals := 20 }) (va_Pc [.ref h0, .int x, .int y] (GG D k [(h0, .inr (9, [.ref pP, .ref pO, .int th, .int sz, .ref pB, .ref pS, .ref pK, .int op, .int rw, .int bg, .int lo, .int cd, .int wd, .int rm, .int rg, .int rr, .int pl, .int lm, .int nx, .long av, .int sp, .int le, .int la])), (pO, .inl (k.1, 47, .inl O)), (pS, .inl (k.1, 38, .inl S)), (pK, .inl (k.1, 38, .inl K))] zsz)) (qc_M_change D k h0 pO pS pK pP pB th sz op rw bg lo cd wd rm rg rr pl lm nx av sp le la O S K x y (va_A [(h0, .inr (9, [.ref pP, .ref pO, .int th, .int sz, .ref pB, .ref pS, .ref pK, .int op, .int rw, .int bg, .int lo, .int cd, .int wd, .int rm, .int rg, .int rr, .int pl, .int lm, .int nx, .long av, .int sp, .int le, .int la])), (pO, .inl (k.1, 47, .inl O)), (pS, .inl (k.1, 38, .inl S)), (pK, .inl (k.1, 38, .inl K))] zsz)) 0 0 (va_A [(h0, .inr (9, [.ref pP, .ref pO, .int th, .int sz, .ref pB, .ref pS, .ref pK, .int op, .int rw, .int bg, .int lo, .int cd, .int wd, .int rm, .int rg, .int rr, .int pl, .int lm, .int nx, .long av, .int sp, .int le, .int la])), (pO, .inl (k.1, 47, .inl O)), (pS, .inl (k.1, 38, .inl S)), (pK, .inl (k.1, 38, .inl K))] zsz) := by
  refine kMet (ws := [(h0, .inr (9, [.ref pP, .ref pO, .int th, .int sz, .ref pB, .ref pS, .ref pK, .int op, .int rw, .int bg, .int lo, .int cd, .int wd, .int rm, .int rg, .int rr, .int pl, .int lm, .int nx, .long av, .int sp, .int le, .int la])), (pO, .inl (k.1, 47, .inl O)), (pS, .inl (k.1, 38, .inl S)), (pK, .inl (k.1, 38, .inl K))]) (Qc := qc_M_change D k h0 pO pS pK pP pB th sz op rw bg lo cd wd rm rg rr pl lm nx av sp le la O S K x y) (by decide) (Nat.le_of_ble_eq_true rfl) (fun p e s m below meth c ls A H Cc hP hD hA hS hl => ?_)
  obtain ⟨hx, hb, hml, hr, hlk, hown, hts, hK, hE, hin⟩ := Cc
  have hl : lv_has ls 4 [(0, .ref h0), (1, .int x), (2, .int y)] := hl
  refine lv_aload_n hx hb d_Mdl_change_0 rfl (lv_at hl 0 rfl) ?_
  refine va_get (D := D) (ci := 9) (v := .ref pS) (C := R_Mdl) (T := T_Mdl) (N := 23) hx hb hts inw_Mdl hown hK hP 0 rfl rfl 5 (by decide) (hts (.fieldLink R_Mdl 20 "LikelyBitsModel" "states" "[I") mw_349) (fun _ h9 => h9) rfl d_Mdl_change_1 ?_
  refine lv_iload_n hx hb d_Mdl_change_4 rfl (lv_at hl 1 rfl) ?_
  refine va_iald hx hb hK hP 2 0 rfl rfl hat d_Mdl_change_5 ?_
  refine lv_topi (fun x1 ex1 => ?_)
  refine lv_istore_n (lv' := [(3, .int x1), (0, .ref h0), (1, .int x), (2, .int y)]) hx hb d_Mdl_change_6 rfl hl (by decide) rfl (fun ls hl => ?_)
  refine lv_iload_n hx hb d_Mdl_change_7 rfl (lv_at hl 3 rfl) ?_
  refine lv_if_ne (tgt := 41) hx hb d_Mdl_change_8 (by decide) (fun c2 => ?_) (fun c2 => ?_)
  · refine lv_aload_n hx hb d_Mdl_change_41 rfl (lv_at hl 1 rfl) ?_
    refine va_get (D := D) (ci := 9) (v := .ref pS) (C := R_Mdl) (T := T_Mdl) (N := 23) hx hb hts inw_Mdl hown hK hP 0 rfl rfl 5 (by decide) (hts (.fieldLink R_Mdl 20 "LikelyBitsModel" "states" "[I") mw_349) (fun _ h9 => h9) rfl d_Mdl_change_42 ?_
    refine lv_iload_n hx hb d_Mdl_change_45 rfl (lv_at hl 2 rfl) ?_
    refine lv_iload_n hx hb d_Mdl_change_46 rfl (lv_at hl 3 rfl) ?_
    refine lv_if_eq (tgt := 57) hx hb d_Mdl_change_47 (by decide) (fun c3 => ?_) (fun c3 => ?_)
    · exact absurd c3 c2
    · refine lv_iload_n hx hb d_Mdl_change_50 rfl (lv_at hl 0 rfl) ?_
      refine kqi (va_runS (As := [.int x1]) (rest := [.int x, .ref pS]) ⟨hx, hb, hml, hown, hts⟩ (c_M_nextOf l hl9 D k  x1 ) (cwS 1 hts (gS mw_350 mw_351 mw_331 mw_352) rfl rfl rfl (by decide +kernel) ⟨(Nat.le_of_ble_eq_true rfl), (Nat.le_of_ble_eq_true rfl)⟩) (kPreR (wc := []) hE hK hP hS [] rfl) rfl rfl hl.1 rfl (lv_room (Nat.le_of_ble_eq_true rfl)) d_Mdl_change_51 ⟨(Nat.le_of_ble_eq_true rfl), (Nat.le_of_ble_eq_true rfl)⟩) hP hS (fun r4 H locs hw hP hS => ?_)
      replace hw := hw.symm
      subst hw
      refine lv_goto (tgt := 63) hx hb d_Mdl_change_54 (by decide) ?_
      refine va_iast hx hb hK hP hD hS 2 0 rfl rfl hat d_Mdl_change_63 (fun H locs hP hD hS => ?_)
      have hP : va_P D vwCl [(h0, .inr (9, [.ref pP, .ref pO, .int th, .int sz, .ref pB, .ref pS, .ref pK, .int op, .int rw, .int bg, .int lo, .int cd, .int wd, .int rm, .int rg, .int rr, .int pl, .int lm, .int nx, .long av, .int sp, .int le, .int la])), (pO, .inl (k.1, 47, .inl O)), (pS, .inl (k.1, 38, .inl (upd S x.toNatClampNeg (nxo x1)))), (pK, .inl (k.1, 38, .inl K))] H := hP
      have hD : va_D A [(h0, .inr (9, [.ref pP, .ref pO, .int th, .int sz, .ref pB, .ref pS, .ref pK, .int op, .int rw, .int bg, .int lo, .int cd, .int wd, .int rm, .int rg, .int rr, .int pl, .int lm, .int nx, .long av, .int sp, .int le, .int la])), (pO, .inl (k.1, 47, .inl O)), (pS, .inl (k.1, 38, .inl (upd S x.toNatClampNeg (nxo x1)))), (pK, .inl (k.1, 38, .inl K))] := hD
      exact krv (wo := wo_M_change k h0 pO pS pK pP pB th sz op rw bg lo cd wd rm rg rr pl lm nx av sp le la O S K x y) hx hb hr hlk hP hD hS (upd S x.toNatClampNeg (nxo x1), K) () (by subst ex1; simp [po_M_change, mch, c2, c3]) trivial [0, 1, 2, 3] rfl (by decide) (Nat.le_of_ble_eq_true rfl) (Nat.le_of_ble_eq_true rfl) d_Mdl_change_64
  · refine lv_iload_n hx hb d_Mdl_change_11 rfl (lv_at hl 0 rfl) ?_
    refine lv_if_eq (tgt := 27) hx hb d_Mdl_change_12 (by decide) (fun c5 => ?_) (fun c5 => ?_)
    · refine lv_aload_n hx hb d_Mdl_change_27 rfl (lv_at hl 1 rfl) ?_
      refine va_get (D := D) (ci := 9) (v := .ref pK) (C := R_Mdl) (T := T_Mdl) (N := 23) hx hb hts inw_Mdl hown hK hP 0 rfl rfl 6 (by decide) (hts (.fieldLink R_Mdl 23 "LikelyBitsModel" "likely" "[I") mw_353) (fun _ h9 => h9) rfl d_Mdl_change_28 ?_
      refine lv_iload_n hx hb d_Mdl_change_31 rfl (lv_at hl 2 rfl) ?_
      refine lv_iconst (v := 1) hx hb d_Mdl_change_32 (by decide) ?_
      refine lv_aload_n hx hb d_Mdl_change_33 rfl (lv_at hl 1 rfl) ?_
      refine va_get (D := D) (ci := 9) (v := .ref pK) (C := R_Mdl) (T := T_Mdl) (N := 23) hx hb hts inw_Mdl hown hK hP 0 rfl rfl 6 (by decide) (hts (.fieldLink R_Mdl 23 "LikelyBitsModel" "likely" "[I") mw_353) (fun _ h9 => h9) rfl d_Mdl_change_34 ?_
      refine lv_iload_n hx hb d_Mdl_change_37 rfl (lv_at hl 2 rfl) ?_
      refine va_iald hx hb hK hP 3 0 rfl rfl hat d_Mdl_change_38 ?_
      refine lv_isub hx hb d_Mdl_change_39 ?_
      refine va_iast hx hb hK hP hD hS 3 0 rfl rfl hat d_Mdl_change_40 (fun H locs hP hD hS => ?_)
      have hP : va_P D vwCl [(h0, .inr (9, [.ref pP, .ref pO, .int th, .int sz, .ref pB, .ref pS, .ref pK, .int op, .int rw, .int bg, .int lo, .int cd, .int wd, .int rm, .int rg, .int rr, .int pl, .int lm, .int nx, .long av, .int sp, .int le, .int la])), (pO, .inl (k.1, 47, .inl O)), (pS, .inl (k.1, 38, .inl S)), (pK, .inl (k.1, 38, .inl (upd K x.toNatClampNeg (1 - (K x.toNatClampNeg)))))] H := hP
      have hD : va_D A [(h0, .inr (9, [.ref pP, .ref pO, .int th, .int sz, .ref pB, .ref pS, .ref pK, .int op, .int rw, .int bg, .int lo, .int cd, .int wd, .int rm, .int rg, .int rr, .int pl, .int lm, .int nx, .long av, .int sp, .int le, .int la])), (pO, .inl (k.1, 47, .inl O)), (pS, .inl (k.1, 38, .inl S)), (pK, .inl (k.1, 38, .inl (upd K x.toNatClampNeg (1 - (K x.toNatClampNeg)))))] := hD
      refine lv_aload_n hx hb d_Mdl_change_41 rfl (lv_at hl 1 rfl) ?_
      refine va_get (D := D) (ci := 9) (v := .ref pS) (C := R_Mdl) (T := T_Mdl) (N := 23) hx hb hts inw_Mdl hown hK hP 0 rfl rfl 5 (by decide) (hts (.fieldLink R_Mdl 20 "LikelyBitsModel" "states" "[I") mw_349) (fun _ h9 => h9) rfl d_Mdl_change_42 ?_
      refine lv_iload_n hx hb d_Mdl_change_45 rfl (lv_at hl 2 rfl) ?_
      refine lv_iload_n hx hb d_Mdl_change_46 rfl (lv_at hl 3 rfl) ?_
      refine lv_if_eq (tgt := 57) hx hb d_Mdl_change_47 (by decide) (fun c6 => ?_) (fun c6 => ?_)
      · refine lv_aload_n hx hb d_Mdl_change_57 rfl (lv_at hl 1 rfl) ?_
        refine va_get (D := D) (ci := 9) (v := .ref pO) (C := R_Mdl) (T := T_Mdl) (N := 23) hx hb hts inw_Mdl hown hK hP 0 rfl rfl 1 (by decide) (hts (.fieldLink R_Mdl 13 "LikelyBitsModel" "other" "[I") mw_354) (fun _ h9 => h9) rfl d_Mdl_change_58 ?_
        refine lv_iload_n hx hb d_Mdl_change_61 rfl (lv_at hl 0 rfl) ?_
        refine va_iald hx hb hK hP 1 0 rfl rfl (by rw [ex1]; exact hst) d_Mdl_change_62 ?_
        refine va_iast hx hb hK hP hD hS 2 0 rfl rfl hat d_Mdl_change_63 (fun H locs hP hD hS => ?_)
        have hP : va_P D vwCl [(h0, .inr (9, [.ref pP, .ref pO, .int th, .int sz, .ref pB, .ref pS, .ref pK, .int op, .int rw, .int bg, .int lo, .int cd, .int wd, .int rm, .int rg, .int rr, .int pl, .int lm, .int nx, .long av, .int sp, .int le, .int la])), (pO, .inl (k.1, 47, .inl O)), (pS, .inl (k.1, 38, .inl (upd S x.toNatClampNeg (O x1.toNatClampNeg)))), (pK, .inl (k.1, 38, .inl (upd K x.toNatClampNeg (1 - (K x.toNatClampNeg)))))] H := hP
        have hD : va_D A [(h0, .inr (9, [.ref pP, .ref pO, .int th, .int sz, .ref pB, .ref pS, .ref pK, .int op, .int rw, .int bg, .int lo, .int cd, .int wd, .int rm, .int rg, .int rr, .int pl, .int lm, .int nx, .long av, .int sp, .int le, .int la])), (pO, .inl (k.1, 47, .inl O)), (pS, .inl (k.1, 38, .inl (upd S x.toNatClampNeg (O x1.toNatClampNeg)))), (pK, .inl (k.1, 38, .inl (upd K x.toNatClampNeg (1 - (K x.toNatClampNeg)))))] := hD
        exact krv (wo := wo_M_change k h0 pO pS pK pP pB th sz op rw bg lo cd wd rm rg rr pl lm nx av sp le la O S K x y) hx hb hr hlk hP hD hS (upd S x.toNatClampNeg (O x1.toNatClampNeg), upd K x.toNatClampNeg (1 - (K x.toNatClampNeg))) () (by subst ex1; simp [po_M_change, mch, c2, c5, c6]) trivial [0, 1, 2, 3] rfl (by decide) (Nat.le_of_ble_eq_true rfl) (Nat.le_of_ble_eq_true rfl) d_Mdl_change_64
      · exact absurd c2 c6
    · refine lv_iload_n hx hb d_Mdl_change_15 rfl (lv_at hl 0 rfl) ?_
      refine lv_bipush (v := 6) hx hb d_Mdl_change_16 (by decide) ?_
      refine lv_icmp_eq (tgt := 27) hx hb d_Mdl_change_18 (by decide) (fun c7 => ?_) (fun c7 => ?_)
      · refine lv_aload_n hx hb d_Mdl_change_27 rfl (lv_at hl 1 rfl) ?_
        refine va_get (D := D) (ci := 9) (v := .ref pK) (C := R_Mdl) (T := T_Mdl) (N := 23) hx hb hts inw_Mdl hown hK hP 0 rfl rfl 6 (by decide) (hts (.fieldLink R_Mdl 23 "LikelyBitsModel" "likely" "[I") mw_353) (fun _ h9 => h9) rfl d_Mdl_change_28 ?_
        refine lv_iload_n hx hb d_Mdl_change_31 rfl (lv_at hl 2 rfl) ?_
        refine lv_iconst (v := 1) hx hb d_Mdl_change_32 (by decide) ?_
        refine lv_aload_n hx hb d_Mdl_change_33 rfl (lv_at hl 1 rfl) ?_
        refine va_get (D := D) (ci := 9) (v := .ref pK) (C := R_Mdl) (T := T_Mdl) (N := 23) hx hb hts inw_Mdl hown hK hP 0 rfl rfl 6 (by decide) (hts (.fieldLink R_Mdl 23 "LikelyBitsModel" "likely" "[I") mw_353) (fun _ h9 => h9) rfl d_Mdl_change_34 ?_
        refine lv_iload_n hx hb d_Mdl_change_37 rfl (lv_at hl 2 rfl) ?_
        refine va_iald hx hb hK hP 3 0 rfl rfl hat d_Mdl_change_38 ?_
        refine lv_isub hx hb d_Mdl_change_39 ?_
        refine va_iast hx hb hK hP hD hS 3 0 rfl rfl hat d_Mdl_change_40 (fun H locs hP hD hS => ?_)
        have hP : va_P D vwCl [(h0, .inr (9, [.ref pP, .ref pO, .int th, .int sz, .ref pB, .ref pS, .ref pK, .int op, .int rw, .int bg, .int lo, .int cd, .int wd, .int rm, .int rg, .int rr, .int pl, .int lm, .int nx, .long av, .int sp, .int le, .int la])), (pO, .inl (k.1, 47, .inl O)), (pS, .inl (k.1, 38, .inl S)), (pK, .inl (k.1, 38, .inl (upd K x.toNatClampNeg (1 - (K x.toNatClampNeg)))))] H := hP
        have hD : va_D A [(h0, .inr (9, [.ref pP, .ref pO, .int th, .int sz, .ref pB, .ref pS, .ref pK, .int op, .int rw, .int bg, .int lo, .int cd, .int wd, .int rm, .int rg, .int rr, .int pl, .int lm, .int nx, .long av, .int sp, .int le, .int la])), (pO, .inl (k.1, 47, .inl O)), (pS, .inl (k.1, 38, .inl S)), (pK, .inl (k.1, 38, .inl (upd K x.toNatClampNeg (1 - (K x.toNatClampNeg)))))] := hD
        refine lv_aload_n hx hb d_Mdl_change_41 rfl (lv_at hl 1 rfl) ?_
        refine va_get (D := D) (ci := 9) (v := .ref pS) (C := R_Mdl) (T := T_Mdl) (N := 23) hx hb hts inw_Mdl hown hK hP 0 rfl rfl 5 (by decide) (hts (.fieldLink R_Mdl 20 "LikelyBitsModel" "states" "[I") mw_349) (fun _ h9 => h9) rfl d_Mdl_change_42 ?_
        refine lv_iload_n hx hb d_Mdl_change_45 rfl (lv_at hl 2 rfl) ?_
        refine lv_iload_n hx hb d_Mdl_change_46 rfl (lv_at hl 3 rfl) ?_
        refine lv_if_eq (tgt := 57) hx hb d_Mdl_change_47 (by decide) (fun c8 => ?_) (fun c8 => ?_)
        · refine lv_aload_n hx hb d_Mdl_change_57 rfl (lv_at hl 1 rfl) ?_
          refine va_get (D := D) (ci := 9) (v := .ref pO) (C := R_Mdl) (T := T_Mdl) (N := 23) hx hb hts inw_Mdl hown hK hP 0 rfl rfl 1 (by decide) (hts (.fieldLink R_Mdl 13 "LikelyBitsModel" "other" "[I") mw_354) (fun _ h9 => h9) rfl d_Mdl_change_58 ?_
          refine lv_iload_n hx hb d_Mdl_change_61 rfl (lv_at hl 0 rfl) ?_
          refine va_iald hx hb hK hP 1 0 rfl rfl (by rw [ex1]; exact hst) d_Mdl_change_62 ?_
          refine va_iast hx hb hK hP hD hS 2 0 rfl rfl hat d_Mdl_change_63 (fun H locs hP hD hS => ?_)
          have hP : va_P D vwCl [(h0, .inr (9, [.ref pP, .ref pO, .int th, .int sz, .ref pB, .ref pS, .ref pK, .int op, .int rw, .int bg, .int lo, .int cd, .int wd, .int rm, .int rg, .int rr, .int pl, .int lm, .int nx, .long av, .int sp, .int le, .int la])), (pO, .inl (k.1, 47, .inl O)), (pS, .inl (k.1, 38, .inl (upd S x.toNatClampNeg (O x1.toNatClampNeg)))), (pK, .inl (k.1, 38, .inl (upd K x.toNatClampNeg (1 - (K x.toNatClampNeg)))))] H := hP
          have hD : va_D A [(h0, .inr (9, [.ref pP, .ref pO, .int th, .int sz, .ref pB, .ref pS, .ref pK, .int op, .int rw, .int bg, .int lo, .int cd, .int wd, .int rm, .int rg, .int rr, .int pl, .int lm, .int nx, .long av, .int sp, .int le, .int la])), (pO, .inl (k.1, 47, .inl O)), (pS, .inl (k.1, 38, .inl (upd S x.toNatClampNeg (O x1.toNatClampNeg)))), (pK, .inl (k.1, 38, .inl (upd K x.toNatClampNeg (1 - (K x.toNatClampNeg)))))] := hD
          exact krv (wo := wo_M_change k h0 pO pS pK pP pB th sz op rw bg lo cd wd rm rg rr pl lm nx av sp le la O S K x y) hx hb hr hlk hP hD hS (upd S x.toNatClampNeg (O x1.toNatClampNeg), upd K x.toNatClampNeg (1 - (K x.toNatClampNeg))) () (by subst ex1; simp [po_M_change, mch, c2, c5, c7, c8]) trivial [0, 1, 2, 3] rfl (by decide) (Nat.le_of_ble_eq_true rfl) (Nat.le_of_ble_eq_true rfl) d_Mdl_change_64
        · exact absurd c2 c8
      · refine lv_iload_n hx hb d_Mdl_change_21 rfl (lv_at hl 0 rfl) ?_
        refine lv_bipush (v := 14) hx hb d_Mdl_change_22 (by decide) ?_
        refine lv_icmp_ne (tgt := 41) hx hb d_Mdl_change_24 (by decide) (fun c9 => ?_) (fun c9 => ?_)
        · refine lv_aload_n hx hb d_Mdl_change_41 rfl (lv_at hl 1 rfl) ?_
          refine va_get (D := D) (ci := 9) (v := .ref pS) (C := R_Mdl) (T := T_Mdl) (N := 23) hx hb hts inw_Mdl hown hK hP 0 rfl rfl 5 (by decide) (hts (.fieldLink R_Mdl 20 "LikelyBitsModel" "states" "[I") mw_349) (fun _ h9 => h9) rfl d_Mdl_change_42 ?_
          refine lv_iload_n hx hb d_Mdl_change_45 rfl (lv_at hl 2 rfl) ?_
          refine lv_iload_n hx hb d_Mdl_change_46 rfl (lv_at hl 3 rfl) ?_
          refine lv_if_eq (tgt := 57) hx hb d_Mdl_change_47 (by decide) (fun c10 => ?_) (fun c10 => ?_)
          · refine lv_aload_n hx hb d_Mdl_change_57 rfl (lv_at hl 1 rfl) ?_
            refine va_get (D := D) (ci := 9) (v := .ref pO) (C := R_Mdl) (T := T_Mdl) (N := 23) hx hb hts inw_Mdl hown hK hP 0 rfl rfl 1 (by decide) (hts (.fieldLink R_Mdl 13 "LikelyBitsModel" "other" "[I") mw_354) (fun _ h9 => h9) rfl d_Mdl_change_58 ?_
            refine lv_iload_n hx hb d_Mdl_change_61 rfl (lv_at hl 0 rfl) ?_
            refine va_iald hx hb hK hP 1 0 rfl rfl (by rw [ex1]; exact hst) d_Mdl_change_62 ?_
            refine va_iast hx hb hK hP hD hS 2 0 rfl rfl hat d_Mdl_change_63 (fun H locs hP hD hS => ?_)
            have hP : va_P D vwCl [(h0, .inr (9, [.ref pP, .ref pO, .int th, .int sz, .ref pB, .ref pS, .ref pK, .int op, .int rw, .int bg, .int lo, .int cd, .int wd, .int rm, .int rg, .int rr, .int pl, .int lm, .int nx, .long av, .int sp, .int le, .int la])), (pO, .inl (k.1, 47, .inl O)), (pS, .inl (k.1, 38, .inl (upd S x.toNatClampNeg (O x1.toNatClampNeg)))), (pK, .inl (k.1, 38, .inl K))] H := hP
            have hD : va_D A [(h0, .inr (9, [.ref pP, .ref pO, .int th, .int sz, .ref pB, .ref pS, .ref pK, .int op, .int rw, .int bg, .int lo, .int cd, .int wd, .int rm, .int rg, .int rr, .int pl, .int lm, .int nx, .long av, .int sp, .int le, .int la])), (pO, .inl (k.1, 47, .inl O)), (pS, .inl (k.1, 38, .inl (upd S x.toNatClampNeg (O x1.toNatClampNeg)))), (pK, .inl (k.1, 38, .inl K))] := hD
            exact krv (wo := wo_M_change k h0 pO pS pK pP pB th sz op rw bg lo cd wd rm rg rr pl lm nx av sp le la O S K x y) hx hb hr hlk hP hD hS (upd S x.toNatClampNeg (O x1.toNatClampNeg), K) () (by subst ex1; simp [po_M_change, mch, c2, c5, c7, c9, c10]) trivial [0, 1, 2, 3] rfl (by decide) (Nat.le_of_ble_eq_true rfl) (Nat.le_of_ble_eq_true rfl) d_Mdl_change_64
          · exact absurd c2 c10
        · refine lv_aload_n hx hb d_Mdl_change_27 rfl (lv_at hl 1 rfl) ?_
          refine va_get (D := D) (ci := 9) (v := .ref pK) (C := R_Mdl) (T := T_Mdl) (N := 23) hx hb hts inw_Mdl hown hK hP 0 rfl rfl 6 (by decide) (hts (.fieldLink R_Mdl 23 "LikelyBitsModel" "likely" "[I") mw_353) (fun _ h9 => h9) rfl d_Mdl_change_28 ?_
          refine lv_iload_n hx hb d_Mdl_change_31 rfl (lv_at hl 2 rfl) ?_
          refine lv_iconst (v := 1) hx hb d_Mdl_change_32 (by decide) ?_
          refine lv_aload_n hx hb d_Mdl_change_33 rfl (lv_at hl 1 rfl) ?_
          refine va_get (D := D) (ci := 9) (v := .ref pK) (C := R_Mdl) (T := T_Mdl) (N := 23) hx hb hts inw_Mdl hown hK hP 0 rfl rfl 6 (by decide) (hts (.fieldLink R_Mdl 23 "LikelyBitsModel" "likely" "[I") mw_353) (fun _ h9 => h9) rfl d_Mdl_change_34 ?_
          refine lv_iload_n hx hb d_Mdl_change_37 rfl (lv_at hl 2 rfl) ?_
          refine va_iald hx hb hK hP 3 0 rfl rfl hat d_Mdl_change_38 ?_
          refine lv_isub hx hb d_Mdl_change_39 ?_
          refine va_iast hx hb hK hP hD hS 3 0 rfl rfl hat d_Mdl_change_40 (fun H locs hP hD hS => ?_)
          have hP : va_P D vwCl [(h0, .inr (9, [.ref pP, .ref pO, .int th, .int sz, .ref pB, .ref pS, .ref pK, .int op, .int rw, .int bg, .int lo, .int cd, .int wd, .int rm, .int rg, .int rr, .int pl, .int lm, .int nx, .long av, .int sp, .int le, .int la])), (pO, .inl (k.1, 47, .inl O)), (pS, .inl (k.1, 38, .inl S)), (pK, .inl (k.1, 38, .inl (upd K x.toNatClampNeg (1 - (K x.toNatClampNeg)))))] H := hP
          have hD : va_D A [(h0, .inr (9, [.ref pP, .ref pO, .int th, .int sz, .ref pB, .ref pS, .ref pK, .int op, .int rw, .int bg, .int lo, .int cd, .int wd, .int rm, .int rg, .int rr, .int pl, .int lm, .int nx, .long av, .int sp, .int le, .int la])), (pO, .inl (k.1, 47, .inl O)), (pS, .inl (k.1, 38, .inl S)), (pK, .inl (k.1, 38, .inl (upd K x.toNatClampNeg (1 - (K x.toNatClampNeg)))))] := hD
          refine lv_aload_n hx hb d_Mdl_change_41 rfl (lv_at hl 1 rfl) ?_
          refine va_get (D := D) (ci := 9) (v := .ref pS) (C := R_Mdl) (T := T_Mdl) (N := 23) hx hb hts inw_Mdl hown hK hP 0 rfl rfl 5 (by decide) (hts (.fieldLink R_Mdl 20 "LikelyBitsModel" "states" "[I") mw_349) (fun _ h9 => h9) rfl d_Mdl_change_42 ?_
          refine lv_iload_n hx hb d_Mdl_change_45 rfl (lv_at hl 2 rfl) ?_
          refine lv_iload_n hx hb d_Mdl_change_46 rfl (lv_at hl 3 rfl) ?_
          refine lv_if_eq (tgt := 57) hx hb d_Mdl_change_47 (by decide) (fun c11 => ?_) (fun c11 => ?_)
          · refine lv_aload_n hx hb d_Mdl_change_57 rfl (lv_at hl 1 rfl) ?_
            refine va_get (D := D) (ci := 9) (v := .ref pO) (C := R_Mdl) (T := T_Mdl) (N := 23) hx hb hts inw_Mdl hown hK hP 0 rfl rfl 1 (by decide) (hts (.fieldLink R_Mdl 13 "LikelyBitsModel" "other" "[I") mw_354) (fun _ h9 => h9) rfl d_Mdl_change_58 ?_
            refine lv_iload_n hx hb d_Mdl_change_61 rfl (lv_at hl 0 rfl) ?_
            refine va_iald hx hb hK hP 1 0 rfl rfl (by rw [ex1]; exact hst) d_Mdl_change_62 ?_
            refine va_iast hx hb hK hP hD hS 2 0 rfl rfl hat d_Mdl_change_63 (fun H locs hP hD hS => ?_)
            have hP : va_P D vwCl [(h0, .inr (9, [.ref pP, .ref pO, .int th, .int sz, .ref pB, .ref pS, .ref pK, .int op, .int rw, .int bg, .int lo, .int cd, .int wd, .int rm, .int rg, .int rr, .int pl, .int lm, .int nx, .long av, .int sp, .int le, .int la])), (pO, .inl (k.1, 47, .inl O)), (pS, .inl (k.1, 38, .inl (upd S x.toNatClampNeg (O x1.toNatClampNeg)))), (pK, .inl (k.1, 38, .inl (upd K x.toNatClampNeg (1 - (K x.toNatClampNeg)))))] H := hP
            have hD : va_D A [(h0, .inr (9, [.ref pP, .ref pO, .int th, .int sz, .ref pB, .ref pS, .ref pK, .int op, .int rw, .int bg, .int lo, .int cd, .int wd, .int rm, .int rg, .int rr, .int pl, .int lm, .int nx, .long av, .int sp, .int le, .int la])), (pO, .inl (k.1, 47, .inl O)), (pS, .inl (k.1, 38, .inl (upd S x.toNatClampNeg (O x1.toNatClampNeg)))), (pK, .inl (k.1, 38, .inl (upd K x.toNatClampNeg (1 - (K x.toNatClampNeg)))))] := hD
            exact krv (wo := wo_M_change k h0 pO pS pK pP pB th sz op rw bg lo cd wd rm rg rr pl lm nx av sp le la O S K x y) hx hb hr hlk hP hD hS (upd S x.toNatClampNeg (O x1.toNatClampNeg), upd K x.toNatClampNeg (1 - (K x.toNatClampNeg))) () (by subst ex1; simp [po_M_change, mch, c2, c5, c7, c9, c11]) trivial [0, 1, 2, 3] rfl (by decide) (Nat.le_of_ble_eq_true rfl) (Nat.le_of_ble_eq_true rfl) d_Mdl_change_64
          · exact absurd c2 c11

def wo_M_writeRaw (k : gK) (h0 pB : Nat) (pP : Nat) (pO : Nat) (pS : Nat) (pK : Nat) (th : Int32) (sz : Int32) (op : Int32) (rw : Int32) (bg : Int32) (lo : Int32) (cd : Int32) (wd : Int32) (rm : Int32) (rg : Int32) (rr : Int32) (pl : Int32) (lm : Int32) (nx : Int32) (av : Int64) (sp : Int32) (le : Int32) (la : Int32) (B : Nat → Int32) (L : List Int32) (b : Int32) (zz : (Nat → Int32) × Int32) (uu : Int32 × List Int32) : va_W := match zz, uu with
  | (B2, sz2), (rm2, L2) => [(h0, .inr (9, [.ref pP, .ref pO, .int th, .int sz2, .ref pB, .ref pS, .ref pK, .int op, .int rw, .int bg, .int lo, .int cd, .int wd, .int rm2, .int rg, .int rr, .int pl, .int lm, .int nx, .long av, .int sp, .int le, .int la])), (pB, .inl (k.1, 65536, .inl B2))]
def ex_M_writeRaw (k : gK) (h0 pB : Nat) (pP : Nat) (pO : Nat) (pS : Nat) (pK : Nat) (th : Int32) (sz : Int32) (op : Int32) (rw : Int32) (bg : Int32) (lo : Int32) (cd : Int32) (wd : Int32) (rm : Int32) (rg : Int32) (rr : Int32) (pl : Int32) (lm : Int32) (nx : Int32) (av : Int64) (sp : Int32) (le : Int32) (la : Int32) (B : Nat → Int32) (L : List Int32) (b : Int32) (zz : (Nat → Int32) × Int32) (uu : Int32 × List Int32) : Prop := match zz, uu with
  | (B2, sz2), (rm2, L2) => row_ok 65536 B2 sz2 L2
def po_M_writeRaw (k : gK) (h0 pB : Nat) (pP : Nat) (pO : Nat) (pS : Nat) (pK : Nat) (th : Int32) (sz : Int32) (op : Int32) (rw : Int32) (bg : Int32) (lo : Int32) (cd : Int32) (wd : Int32) (rm : Int32) (rg : Int32) (rr : Int32) (pl : Int32) (lm : Int32) (nx : Int32) (av : Int64) (sp : Int32) (le : Int32) (la : Int32) (B : Nat → Int32) (L : List Int32) (b : Int32) (uu : Int32 × List Int32) : Prop := match uu with
  | (rm2, L2) => rm2 = (mrw bg rm L b).1 ∧ L2 = (mrw bg rm L b).2
def qc_M_writeRaw (D : va_G) (k : gK) (h0 pB : Nat) (pP : Nat) (pO : Nat) (pS : Nat) (pK : Nat) (th : Int32) (sz : Int32) (op : Int32) (rw : Int32) (bg : Int32) (lo : Int32) (cd : Int32) (wd : Int32) (rm : Int32) (rg : Int32) (rr : Int32) (pl : Int32) (lm : Int32) (nx : Int32) (av : Int64) (sp : Int32) (le : Int32) (la : Int32) (B : Nat → Int32) (L : List Int32) (b : Int32) (A : Nat → Prop) : Array Value → State → Outcome → State → Prop := va_Qv (po_M_writeRaw k h0 pB pP pO pS pK th sz op rw bg lo cd wd rm rg rr pl lm nx av sp le la B L b) (fun uu t => ∃ zz, ex_M_writeRaw k h0 pB pP pO pS pK th sz op rw bg lo cd wd rm rg rr pl lm nx av sp le la B L b zz uu ∧ GP D A (wo_M_writeRaw k h0 pB pP pO pS pK th sz op rw bg lo cd wd rm rg rr pl lm nx av sp le la B L b zz uu) t) A
set_option maxHeartbeats 1000000 in
set_option maxRecDepth 100000 in
theorem c_M_writeRaw (l : Launch) (hl9 : l.stackTraces = false) (D : va_G) (k : gK) (h0 pB : Nat) (zsz : Nat) (pP : Nat) (pO : Nat) (pS : Nat) (pK : Nat) (th : Int32) (sz : Int32) (op : Int32) (rw : Int32) (bg : Int32) (lo : Int32) (cd : Int32) (wd : Int32) (rm : Int32) (rg : Int32) (rr : Int32) (pl : Int32) (lm : Int32) (nx : Int32) (av : Int64) (sp : Int32) (le : Int32) (la : Int32) (B : Nat → Int32) (L : List Int32) (b : Int32) (hM : row_ok 65536 B sz L) (hbg : ¬ bg < 0) (hrl : rm = 0 → L.length < 65536) (hrn : rm = 0 ∨ 0 < L.length) : Met l y_Mdl_writeRaw (.code y_Mdl_writeRaw b_Mdl_writeRaw 2 none :: AW) ({ frames := 1, cells := 0, slots := 0, locals := 20 }) (va_Pc [.ref h0, .int b] (GG D k [(h0, .inr (9, [.ref pP, .ref pO, .int th, .int sz, .ref pB, .ref pS, .ref pK, .int op, .int rw, .int bg, .int lo, .int cd, .int wd, .int rm, .int rg, .int rr, .int pl, .int lm, .int nx, .long av, .int sp, .int le, .int la])), (pB, .inl (k.1, 65536, .inl B))] zsz)) (qc_M_writeRaw D k h0 pB pP pO pS pK th sz op rw bg lo cd wd rm rg rr pl lm nx av sp le la B L b (va_A [(h0, .inr (9, [.ref pP, .ref pO, .int th, .int sz, .ref pB, .ref pS, .ref pK, .int op, .int rw, .int bg, .int lo, .int cd, .int wd, .int rm, .int rg, .int rr, .int pl, .int lm, .int nx, .long av, .int sp, .int le, .int la])), (pB, .inl (k.1, 65536, .inl B))] zsz)) 0 0 (va_A [(h0, .inr (9, [.ref pP, .ref pO, .int th, .int sz, .ref pB, .ref pS, .ref pK, .int op, .int rw, .int bg, .int lo, .int cd, .int wd, .int rm, .int rg, .int rr, .int pl, .int lm, .int nx, .long av, .int sp, .int le, .int la])), (pB, .inl (k.1, 65536, .inl B))] zsz) := by
  refine kMet (ws := [(h0, .inr (9, [.ref pP, .ref pO, .int th, .int sz, .ref pB, .ref pS, .ref pK, .int op, .int rw, .int bg, .int lo, .int cd, .int wd, .int rm, .int rg, .int rr, .int pl, .int lm, .int nx, .long av, .int sp, .int le, .int la])), (pB, .inl (k.1, 65536, .inl B))]) (Qc := qc_M_writeRaw D k h0 pB pP pO pS pK th sz op rw bg lo cd wd rm rg rr pl lm nx av sp le la B L b) (by decide) (Nat.le_of_ble_eq_true rfl) (fun p e s m below meth c ls A H Cc hP hD hA hS hl => ?_)
  obtain ⟨hx, hb, hml, hr, hlk, hown, hts, hK, hE, hin⟩ := Cc
  have hl : lv_has ls 2 [(0, .ref h0), (1, .int b)] := hl
  refine lv_aload_n hx hb d_Mdl_writeRaw_0 rfl (lv_at hl 0 rfl) ?_
  refine va_get (D := D) (ci := 9) (v := .int rm) (C := R_Mdl) (T := T_Mdl) (N := 23) hx hb hts inw_Mdl hown hK hP 0 rfl rfl 13 (by decide) (hts (.fieldLink R_Mdl 63 "LikelyBitsModel" "room" "I") mw_335) (fun _ h9 => h9) rfl d_Mdl_writeRaw_1 ?_
  refine lv_if_ne (tgt := 62) hx hb d_Mdl_writeRaw_4 (by decide) (fun c1 => ?_) (fun c1 => ?_)
  · refine lv_aload_n hx hb d_Mdl_writeRaw_62 rfl (lv_at hl 0 rfl) ?_
    refine lv_dup hx hb d_Mdl_writeRaw_63 rfl ?_
    refine va_get (D := D) (ci := 9) (v := .int rm) (C := R_Mdl) (T := T_Mdl) (N := 23) hx hb hts inw_Mdl hown hK hP 0 rfl rfl 13 (by decide) (hts (.fieldLink R_Mdl 63 "LikelyBitsModel" "room" "I") mw_335) (fun _ h9 => h9) rfl d_Mdl_writeRaw_64 ?_
    refine lv_iconst (v := 1) hx hb d_Mdl_writeRaw_67 (by decide) ?_
    refine lv_isub hx hb d_Mdl_writeRaw_68 ?_
    refine lv_topi (fun x2 ex2 => ?_)
    refine va_put (D := D) (ci := 9) (v := .int x2) (ty := .int) (C := R_Mdl) (T := T_Mdl) (N := 23) hx hb hts inw_Mdl ty_Mdl tyok_Mdl nm_Mdl hown hK hP hD hS 0 rfl rfl 13 (by decide) (hts (.fieldLink R_Mdl 63 "LikelyBitsModel" "room" "I") mw_335) (fun _ h9 => h9) rfl (by decide +kernel) rfl rfl (Nat.le_of_ble_eq_true rfl) d_Mdl_writeRaw_69 (fun H locs hP hD hS => ?_)
    have hP : va_P D vwCl [(h0, .inr (9, [.ref pP, .ref pO, .int th, .int sz, .ref pB, .ref pS, .ref pK, .int op, .int rw, .int bg, .int lo, .int cd, .int wd, .int x2, .int rg, .int rr, .int pl, .int lm, .int nx, .long av, .int sp, .int le, .int la])), (pB, .inl (k.1, 65536, .inl B))] H := hP
    have hD : va_D A [(h0, .inr (9, [.ref pP, .ref pO, .int th, .int sz, .ref pB, .ref pS, .ref pK, .int op, .int rw, .int bg, .int lo, .int cd, .int wd, .int x2, .int rg, .int rr, .int pl, .int lm, .int nx, .long av, .int sp, .int le, .int la])), (pB, .inl (k.1, 65536, .inl B))] := hD
    refine lv_aload_n hx hb d_Mdl_writeRaw_72 rfl (lv_at hl 0 rfl) ?_
    refine va_get (D := D) (ci := 9) (v := .ref pB) (C := R_Mdl) (T := T_Mdl) (N := 23) hx hb hts inw_Mdl hown hK hP 0 rfl rfl 4 (by decide) (hts (.fieldLink R_Mdl 17 "LikelyBitsModel" "bytes" "[I") mw_333) (fun _ h9 => h9) rfl d_Mdl_writeRaw_73 ?_
    refine lv_aload_n hx hb d_Mdl_writeRaw_76 rfl (lv_at hl 0 rfl) ?_
    refine va_get (D := D) (ci := 9) (v := .int sz) (C := R_Mdl) (T := T_Mdl) (N := 23) hx hb hts inw_Mdl hown hK hP 0 rfl rfl 3 (by decide) (hts (.fieldLink R_Mdl 30 "LikelyBitsModel" "size" "I") mw_324) (fun _ h9 => h9) rfl d_Mdl_writeRaw_77 ?_
    refine lv_iconst (v := 1) hx hb d_Mdl_writeRaw_80 (by decide) ?_
    refine lv_isub hx hb d_Mdl_writeRaw_81 ?_
    refine lv_aload_n hx hb d_Mdl_writeRaw_82 rfl (lv_at hl 0 rfl) ?_
    refine va_get (D := D) (ci := 9) (v := .ref pB) (C := R_Mdl) (T := T_Mdl) (N := 23) hx hb hts inw_Mdl hown hK hP 0 rfl rfl 4 (by decide) (hts (.fieldLink R_Mdl 17 "LikelyBitsModel" "bytes" "[I") mw_333) (fun _ h9 => h9) rfl d_Mdl_writeRaw_83 ?_
    refine lv_aload_n hx hb d_Mdl_writeRaw_86 rfl (lv_at hl 0 rfl) ?_
    refine va_get (D := D) (ci := 9) (v := .int sz) (C := R_Mdl) (T := T_Mdl) (N := 23) hx hb hts inw_Mdl hown hK hP 0 rfl rfl 3 (by decide) (hts (.fieldLink R_Mdl 30 "LikelyBitsModel" "size" "I") mw_324) (fun _ h9 => h9) rfl d_Mdl_writeRaw_87 ?_
    refine lv_iconst (v := 1) hx hb d_Mdl_writeRaw_90 (by decide) ?_
    refine lv_isub hx hb d_Mdl_writeRaw_91 ?_
    refine va_iald hx hb hK hP 1 0 rfl rfl (mp_in hM (hrn.resolve_left c1)) d_Mdl_writeRaw_92 ?_
    refine lv_iload_n hx hb d_Mdl_writeRaw_93 rfl (lv_at hl 1 rfl) ?_
    refine lv_aload_n hx hb d_Mdl_writeRaw_94 rfl (lv_at hl 0 rfl) ?_
    refine va_get (D := D) (ci := 9) (v := .int x2) (C := R_Mdl) (T := T_Mdl) (N := 23) hx hb hts inw_Mdl hown hK hP 0 rfl rfl 13 (by decide) (hts (.fieldLink R_Mdl 63 "LikelyBitsModel" "room" "I") mw_335) (fun _ h9 => h9) rfl d_Mdl_writeRaw_95 ?_
    refine lv_ishl hx hb d_Mdl_writeRaw_98 ?_
    refine lv_ior hx hb d_Mdl_writeRaw_99 ?_
    refine va_iast hx hb hK hP hD hS 1 0 rfl rfl (mp_in hM (hrn.resolve_left c1)) d_Mdl_writeRaw_100 (fun H locs hP hD hS => ?_)
    have hP : va_P D vwCl [(h0, .inr (9, [.ref pP, .ref pO, .int th, .int sz, .ref pB, .ref pS, .ref pK, .int op, .int rw, .int bg, .int lo, .int cd, .int wd, .int x2, .int rg, .int rr, .int pl, .int lm, .int nx, .long av, .int sp, .int le, .int la])), (pB, .inl (k.1, 65536, .inl (upd B (sz - 1).toNatClampNeg ((B (sz - 1).toNatClampNeg) ||| (b <<< (x2 &&& 31))))))] H := hP
    have hD : va_D A [(h0, .inr (9, [.ref pP, .ref pO, .int th, .int sz, .ref pB, .ref pS, .ref pK, .int op, .int rw, .int bg, .int lo, .int cd, .int wd, .int x2, .int rg, .int rr, .int pl, .int lm, .int nx, .long av, .int sp, .int le, .int la])), (pB, .inl (k.1, 65536, .inl (upd B (sz - 1).toNatClampNeg ((B (sz - 1).toNatClampNeg) ||| (b <<< (x2 &&& 31))))))] := hD
    generalize hB3 : upd B (sz - 1).toNatClampNeg ((B (sz - 1).toNatClampNeg) ||| (b <<< (x2 &&& 31))) = B3 at hP hD
    have hP : va_P D vwCl [(h0, .inr (9, [.ref pP, .ref pO, .int th, .int sz, .ref pB, .ref pS, .ref pK, .int op, .int rw, .int bg, .int lo, .int cd, .int wd, .int x2, .int rg, .int rr, .int pl, .int lm, .int nx, .long av, .int sp, .int le, .int la])), (pB, .inl (k.1, 65536, .inl B3))] H := hP
    have hD : va_D A [(h0, .inr (9, [.ref pP, .ref pO, .int th, .int sz, .ref pB, .ref pS, .ref pK, .int op, .int rw, .int bg, .int lo, .int cd, .int wd, .int x2, .int rg, .int rr, .int pl, .int lm, .int nx, .long av, .int sp, .int le, .int la])), (pB, .inl (k.1, 65536, .inl B3))] := hD
    have hM4 : row_ok 65536 B3 sz (rs L (nI L.length - 1) ((mlast L ||| (b <<< (x2 &&& 31))))) := by rw [← hB3, ← mp_lv hM (hrn.resolve_left c1)]; exact mp_set hM (hrn.resolve_left c1)
    exact krv (wo := wo_M_writeRaw k h0 pB pP pO pS pK th sz op rw bg lo cd wd rm rg rr pl lm nx av sp le la B L b) hx hb hr hlk hP hD hS (x2, rs L (nI L.length - 1) ((mlast L ||| (b <<< (x2 &&& 31))))) (B3, sz) (by have hq : mrw bg rm L b = mr2 rm L b := (by rw [mrw, if_neg c1]); show _ = (mrw bg rm L b).1 ∧ _ = (mrw bg rm L b).2; rw [hq, mr2_eq ex2]; exact ⟨rfl, rfl⟩) (by unfold ex_M_writeRaw; exact hM4) [0, 1] rfl (by decide) (Nat.le_of_ble_eq_true rfl) (Nat.le_of_ble_eq_true rfl) d_Mdl_writeRaw_101
  · refine lv_aload_n hx hb d_Mdl_writeRaw_7 rfl (lv_at hl 0 rfl) ?_
    refine lv_aload_n hx hb d_Mdl_writeRaw_8 rfl (lv_at hl 0 rfl) ?_
    refine kqi (va_runV (As := []) (rest := [.ref h0]) ⟨hx, hb, hml, hown, hts⟩ (c_M_hasLast l hl9 D k h0 pP pO pB pS pK th sz op rw bg lo cd wd rm rg rr pl lm nx av sp le la ) (cwV 0 hts (gV mw_328 mw_329 mw_330 mw_331 mw_332) rfl rfl rfl (by decide +kernel) ⟨(Nat.le_of_ble_eq_true rfl), (Nat.le_of_ble_eq_true rfl)⟩) (kRecv (q := (R_Mdl, T_Mdl, 23)) (q0 := 0) (ci := 9) hK hP rfl rfl (kPreR (wc := [(h0, .inr (9, [.ref pP, .ref pO, .int th, .int sz, .ref pB, .ref pS, .ref pK, .int op, .int rw, .int bg, .int lo, .int cd, .int wd, .int rm, .int rg, .int rr, .int pl, .int lm, .int nx, .long av, .int sp, .int le, .int la]))]) hE hK hP hS [0] rfl)) rfl rfl hl.1 rfl (lv_room (Nat.le_of_ble_eq_true rfl)) d_Mdl_writeRaw_9 ⟨(Nat.le_of_ble_eq_true rfl), (Nat.le_of_ble_eq_true rfl)⟩) hP hS (fun r4 H locs hw hP hS => ?_)
    replace hw := hw.symm
    subst hw
    refine lv_if_eq (tgt := 37) hx hb d_Mdl_writeRaw_12 (by decide) (fun c5 => ?_) (fun c5 => ?_)
    · have hq6 : nI L.length ≤ bg := by rw [← hM.1]; exact mhl_eq c5
      refine lv_bipush (v := 8) hx hb d_Mdl_writeRaw_37 (by decide) ?_
      refine va_put (D := D) (ci := 9) (v := .int 8) (ty := .int) (C := R_Mdl) (T := T_Mdl) (N := 23) hx hb hts inw_Mdl ty_Mdl tyok_Mdl nm_Mdl hown hK hP hD hS 0 rfl rfl 13 (by decide) (hts (.fieldLink R_Mdl 63 "LikelyBitsModel" "room" "I") mw_335) (fun _ h9 => h9) rfl (by decide +kernel) rfl rfl (Nat.le_of_ble_eq_true rfl) d_Mdl_writeRaw_39 (fun H locs hP hD hS => ?_)
      have hP : va_P D vwCl [(h0, .inr (9, [.ref pP, .ref pO, .int th, .int sz, .ref pB, .ref pS, .ref pK, .int op, .int rw, .int bg, .int lo, .int cd, .int wd, .int 8, .int rg, .int rr, .int pl, .int lm, .int nx, .long av, .int sp, .int le, .int la])), (pB, .inl (k.1, 65536, .inl B))] H := hP
      have hD : va_D A [(h0, .inr (9, [.ref pP, .ref pO, .int th, .int sz, .ref pB, .ref pS, .ref pK, .int op, .int rw, .int bg, .int lo, .int cd, .int wd, .int 8, .int rg, .int rr, .int pl, .int lm, .int nx, .long av, .int sp, .int le, .int la])), (pB, .inl (k.1, 65536, .inl B))] := hD
      refine lv_aload_n hx hb d_Mdl_writeRaw_42 rfl (lv_at hl 0 rfl) ?_
      refine va_get (D := D) (ci := 9) (v := .ref pB) (C := R_Mdl) (T := T_Mdl) (N := 23) hx hb hts inw_Mdl hown hK hP 0 rfl rfl 4 (by decide) (hts (.fieldLink R_Mdl 17 "LikelyBitsModel" "bytes" "[I") mw_333) (fun _ h9 => h9) rfl d_Mdl_writeRaw_43 ?_
      refine lv_aload_n hx hb d_Mdl_writeRaw_46 rfl (lv_at hl 0 rfl) ?_
      refine va_get (D := D) (ci := 9) (v := .int sz) (C := R_Mdl) (T := T_Mdl) (N := 23) hx hb hts inw_Mdl hown hK hP 0 rfl rfl 3 (by decide) (hts (.fieldLink R_Mdl 30 "LikelyBitsModel" "size" "I") mw_324) (fun _ h9 => h9) rfl d_Mdl_writeRaw_47 ?_
      refine lv_iconst (v := 0) hx hb d_Mdl_writeRaw_50 (by decide) ?_
      refine va_iast hx hb hK hP hD hS 1 0 rfl rfl (m_stin hM (hrl c1)) d_Mdl_writeRaw_51 (fun H locs hP hD hS => ?_)
      have hP : va_P D vwCl [(h0, .inr (9, [.ref pP, .ref pO, .int th, .int sz, .ref pB, .ref pS, .ref pK, .int op, .int rw, .int bg, .int lo, .int cd, .int wd, .int 8, .int rg, .int rr, .int pl, .int lm, .int nx, .long av, .int sp, .int le, .int la])), (pB, .inl (k.1, 65536, .inl (upd B sz.toNatClampNeg 0)))] H := hP
      have hD : va_D A [(h0, .inr (9, [.ref pP, .ref pO, .int th, .int sz, .ref pB, .ref pS, .ref pK, .int op, .int rw, .int bg, .int lo, .int cd, .int wd, .int 8, .int rg, .int rr, .int pl, .int lm, .int nx, .long av, .int sp, .int le, .int la])), (pB, .inl (k.1, 65536, .inl (upd B sz.toNatClampNeg 0)))] := hD
      generalize hB7 : upd B sz.toNatClampNeg 0 = B7 at hP hD
      have hP : va_P D vwCl [(h0, .inr (9, [.ref pP, .ref pO, .int th, .int sz, .ref pB, .ref pS, .ref pK, .int op, .int rw, .int bg, .int lo, .int cd, .int wd, .int 8, .int rg, .int rr, .int pl, .int lm, .int nx, .long av, .int sp, .int le, .int la])), (pB, .inl (k.1, 65536, .inl B7))] H := hP
      have hD : va_D A [(h0, .inr (9, [.ref pP, .ref pO, .int th, .int sz, .ref pB, .ref pS, .ref pK, .int op, .int rw, .int bg, .int lo, .int cd, .int wd, .int 8, .int rg, .int rr, .int pl, .int lm, .int nx, .long av, .int sp, .int le, .int la])), (pB, .inl (k.1, 65536, .inl B7))] := hD
      have hM2 : row_ok 65536 B7 (sz + 1) (L ++ [0]) := by rw [← hB7]; exact m_app hM (hrl c1)
      have hp9 : 0 < (L ++ [(0 : Int32)]).length := by rw [len_app1]; omega
      refine lv_aload_n hx hb d_Mdl_writeRaw_52 rfl (lv_at hl 0 rfl) ?_
      refine lv_dup hx hb d_Mdl_writeRaw_53 rfl ?_
      refine va_get (D := D) (ci := 9) (v := .int sz) (C := R_Mdl) (T := T_Mdl) (N := 23) hx hb hts inw_Mdl hown hK hP 0 rfl rfl 3 (by decide) (hts (.fieldLink R_Mdl 30 "LikelyBitsModel" "size" "I") mw_324) (fun _ h9 => h9) rfl d_Mdl_writeRaw_54 ?_
      refine lv_iconst (v := 1) hx hb d_Mdl_writeRaw_57 (by decide) ?_
      refine lv_iadd hx hb d_Mdl_writeRaw_58 ?_
      refine lv_topi (fun x8 ex8 => ?_)
      refine va_put (D := D) (ci := 9) (v := .int x8) (ty := .int) (C := R_Mdl) (T := T_Mdl) (N := 23) hx hb hts inw_Mdl ty_Mdl tyok_Mdl nm_Mdl hown hK hP hD hS 0 rfl rfl 3 (by decide) (hts (.fieldLink R_Mdl 30 "LikelyBitsModel" "size" "I") mw_324) (fun _ h9 => h9) rfl (by decide +kernel) rfl rfl (Nat.le_of_ble_eq_true rfl) d_Mdl_writeRaw_59 (fun H locs hP hD hS => ?_)
      have hP : va_P D vwCl [(h0, .inr (9, [.ref pP, .ref pO, .int th, .int x8, .ref pB, .ref pS, .ref pK, .int op, .int rw, .int bg, .int lo, .int cd, .int wd, .int 8, .int rg, .int rr, .int pl, .int lm, .int nx, .long av, .int sp, .int le, .int la])), (pB, .inl (k.1, 65536, .inl B7))] H := hP
      have hD : va_D A [(h0, .inr (9, [.ref pP, .ref pO, .int th, .int x8, .ref pB, .ref pS, .ref pK, .int op, .int rw, .int bg, .int lo, .int cd, .int wd, .int 8, .int rg, .int rr, .int pl, .int lm, .int nx, .long av, .int sp, .int le, .int la])), (pB, .inl (k.1, 65536, .inl B7))] := hD
      have hM3 : row_ok 65536 B7 x8 (L ++ [0]) := by rw [ex8]; exact hM2
      refine lv_aload_n hx hb d_Mdl_writeRaw_62 rfl (lv_at hl 0 rfl) ?_
      refine lv_dup hx hb d_Mdl_writeRaw_63 rfl ?_
      refine va_get (D := D) (ci := 9) (v := .int 8) (C := R_Mdl) (T := T_Mdl) (N := 23) hx hb hts inw_Mdl hown hK hP 0 rfl rfl 13 (by decide) (hts (.fieldLink R_Mdl 63 "LikelyBitsModel" "room" "I") mw_335) (fun _ h9 => h9) rfl d_Mdl_writeRaw_64 ?_
      refine lv_iconst (v := 1) hx hb d_Mdl_writeRaw_67 (by decide) ?_
      refine lv_isub hx hb d_Mdl_writeRaw_68 ?_
      refine lv_topi (fun x9 ex9 => ?_)
      refine va_put (D := D) (ci := 9) (v := .int x9) (ty := .int) (C := R_Mdl) (T := T_Mdl) (N := 23) hx hb hts inw_Mdl ty_Mdl tyok_Mdl nm_Mdl hown hK hP hD hS 0 rfl rfl 13 (by decide) (hts (.fieldLink R_Mdl 63 "LikelyBitsModel" "room" "I") mw_335) (fun _ h9 => h9) rfl (by decide +kernel) rfl rfl (Nat.le_of_ble_eq_true rfl) d_Mdl_writeRaw_69 (fun H locs hP hD hS => ?_)
      have hP : va_P D vwCl [(h0, .inr (9, [.ref pP, .ref pO, .int th, .int x8, .ref pB, .ref pS, .ref pK, .int op, .int rw, .int bg, .int lo, .int cd, .int wd, .int x9, .int rg, .int rr, .int pl, .int lm, .int nx, .long av, .int sp, .int le, .int la])), (pB, .inl (k.1, 65536, .inl B7))] H := hP
      have hD : va_D A [(h0, .inr (9, [.ref pP, .ref pO, .int th, .int x8, .ref pB, .ref pS, .ref pK, .int op, .int rw, .int bg, .int lo, .int cd, .int wd, .int x9, .int rg, .int rr, .int pl, .int lm, .int nx, .long av, .int sp, .int le, .int la])), (pB, .inl (k.1, 65536, .inl B7))] := hD
      refine lv_aload_n hx hb d_Mdl_writeRaw_72 rfl (lv_at hl 0 rfl) ?_
      refine va_get (D := D) (ci := 9) (v := .ref pB) (C := R_Mdl) (T := T_Mdl) (N := 23) hx hb hts inw_Mdl hown hK hP 0 rfl rfl 4 (by decide) (hts (.fieldLink R_Mdl 17 "LikelyBitsModel" "bytes" "[I") mw_333) (fun _ h9 => h9) rfl d_Mdl_writeRaw_73 ?_
      refine lv_aload_n hx hb d_Mdl_writeRaw_76 rfl (lv_at hl 0 rfl) ?_
      refine va_get (D := D) (ci := 9) (v := .int x8) (C := R_Mdl) (T := T_Mdl) (N := 23) hx hb hts inw_Mdl hown hK hP 0 rfl rfl 3 (by decide) (hts (.fieldLink R_Mdl 30 "LikelyBitsModel" "size" "I") mw_324) (fun _ h9 => h9) rfl d_Mdl_writeRaw_77 ?_
      refine lv_iconst (v := 1) hx hb d_Mdl_writeRaw_80 (by decide) ?_
      refine lv_isub hx hb d_Mdl_writeRaw_81 ?_
      refine lv_aload_n hx hb d_Mdl_writeRaw_82 rfl (lv_at hl 0 rfl) ?_
      refine va_get (D := D) (ci := 9) (v := .ref pB) (C := R_Mdl) (T := T_Mdl) (N := 23) hx hb hts inw_Mdl hown hK hP 0 rfl rfl 4 (by decide) (hts (.fieldLink R_Mdl 17 "LikelyBitsModel" "bytes" "[I") mw_333) (fun _ h9 => h9) rfl d_Mdl_writeRaw_83 ?_
      refine lv_aload_n hx hb d_Mdl_writeRaw_86 rfl (lv_at hl 0 rfl) ?_
      refine va_get (D := D) (ci := 9) (v := .int x8) (C := R_Mdl) (T := T_Mdl) (N := 23) hx hb hts inw_Mdl hown hK hP 0 rfl rfl 3 (by decide) (hts (.fieldLink R_Mdl 30 "LikelyBitsModel" "size" "I") mw_324) (fun _ h9 => h9) rfl d_Mdl_writeRaw_87 ?_
      refine lv_iconst (v := 1) hx hb d_Mdl_writeRaw_90 (by decide) ?_
      refine lv_isub hx hb d_Mdl_writeRaw_91 ?_
      refine va_iald hx hb hK hP 1 0 rfl rfl (mp_in hM3 hp9) d_Mdl_writeRaw_92 ?_
      refine lv_iload_n hx hb d_Mdl_writeRaw_93 rfl (lv_at hl 1 rfl) ?_
      refine lv_aload_n hx hb d_Mdl_writeRaw_94 rfl (lv_at hl 0 rfl) ?_
      refine va_get (D := D) (ci := 9) (v := .int x9) (C := R_Mdl) (T := T_Mdl) (N := 23) hx hb hts inw_Mdl hown hK hP 0 rfl rfl 13 (by decide) (hts (.fieldLink R_Mdl 63 "LikelyBitsModel" "room" "I") mw_335) (fun _ h9 => h9) rfl d_Mdl_writeRaw_95 ?_
      refine lv_ishl hx hb d_Mdl_writeRaw_98 ?_
      refine lv_ior hx hb d_Mdl_writeRaw_99 ?_
      refine va_iast hx hb hK hP hD hS 1 0 rfl rfl (mp_in hM3 hp9) d_Mdl_writeRaw_100 (fun H locs hP hD hS => ?_)
      have hP : va_P D vwCl [(h0, .inr (9, [.ref pP, .ref pO, .int th, .int x8, .ref pB, .ref pS, .ref pK, .int op, .int rw, .int bg, .int lo, .int cd, .int wd, .int x9, .int rg, .int rr, .int pl, .int lm, .int nx, .long av, .int sp, .int le, .int la])), (pB, .inl (k.1, 65536, .inl (upd B7 (x8 - 1).toNatClampNeg ((B7 (x8 - 1).toNatClampNeg) ||| (b <<< (x9 &&& 31))))))] H := hP
      have hD : va_D A [(h0, .inr (9, [.ref pP, .ref pO, .int th, .int x8, .ref pB, .ref pS, .ref pK, .int op, .int rw, .int bg, .int lo, .int cd, .int wd, .int x9, .int rg, .int rr, .int pl, .int lm, .int nx, .long av, .int sp, .int le, .int la])), (pB, .inl (k.1, 65536, .inl (upd B7 (x8 - 1).toNatClampNeg ((B7 (x8 - 1).toNatClampNeg) ||| (b <<< (x9 &&& 31))))))] := hD
      generalize hB10 : upd B7 (x8 - 1).toNatClampNeg ((B7 (x8 - 1).toNatClampNeg) ||| (b <<< (x9 &&& 31))) = B10 at hP hD
      have hP : va_P D vwCl [(h0, .inr (9, [.ref pP, .ref pO, .int th, .int x8, .ref pB, .ref pS, .ref pK, .int op, .int rw, .int bg, .int lo, .int cd, .int wd, .int x9, .int rg, .int rr, .int pl, .int lm, .int nx, .long av, .int sp, .int le, .int la])), (pB, .inl (k.1, 65536, .inl B10))] H := hP
      have hD : va_D A [(h0, .inr (9, [.ref pP, .ref pO, .int th, .int x8, .ref pB, .ref pS, .ref pK, .int op, .int rw, .int bg, .int lo, .int cd, .int wd, .int x9, .int rg, .int rr, .int pl, .int lm, .int nx, .long av, .int sp, .int le, .int la])), (pB, .inl (k.1, 65536, .inl B10))] := hD
      have hM4 : row_ok 65536 B10 x8 (rs (L ++ [0]) (nI (L ++ [0]).length - 1) ((mlast (L ++ [0]) ||| (b <<< (x9 &&& 31))))) := by rw [← hB10, ← mp_lv hM3 hp9]; exact mp_set hM3 hp9
      exact krv (wo := wo_M_writeRaw k h0 pB pP pO pS pK th sz op rw bg lo cd wd rm rg rr pl lm nx av sp le la B L b) hx hb hr hlk hP hD hS (x9, rs (L ++ [0]) (nI (L ++ [0]).length - 1) ((mlast (L ++ [0]) ||| (b <<< (x9 &&& 31))))) (B10, x8) (by have hq : mrw bg rm L b = mr2 8 (L ++ [0]) b := (by rw [mrw, if_pos c1, if_pos hq6]); show _ = (mrw bg rm L b).1 ∧ _ = (mrw bg rm L b).2; rw [hq, mr2_eq ex9]; exact ⟨rfl, rfl⟩) (by unfold ex_M_writeRaw; exact hM4) [0, 1] rfl (by decide) (Nat.le_of_ble_eq_true rfl) (Nat.le_of_ble_eq_true rfl) d_Mdl_writeRaw_101
    · have hq11 : ¬ nI L.length ≤ bg := by rw [← hM.1]; exact mhl_ne c5
      have hq11n := mhl_ne c5
      refine lv_aload_n hx hb d_Mdl_writeRaw_15 rfl (lv_at hl 0 rfl) ?_
      refine va_get (D := D) (ci := 9) (v := .ref pB) (C := R_Mdl) (T := T_Mdl) (N := 23) hx hb hts inw_Mdl hown hK hP 0 rfl rfl 4 (by decide) (hts (.fieldLink R_Mdl 17 "LikelyBitsModel" "bytes" "[I") mw_333) (fun _ h9 => h9) rfl d_Mdl_writeRaw_16 ?_
      refine lv_aload_n hx hb d_Mdl_writeRaw_19 rfl (lv_at hl 0 rfl) ?_
      refine va_get (D := D) (ci := 9) (v := .int sz) (C := R_Mdl) (T := T_Mdl) (N := 23) hx hb hts inw_Mdl hown hK hP 0 rfl rfl 3 (by decide) (hts (.fieldLink R_Mdl 30 "LikelyBitsModel" "size" "I") mw_324) (fun _ h9 => h9) rfl d_Mdl_writeRaw_20 ?_
      refine lv_iconst (v := 1) hx hb d_Mdl_writeRaw_23 (by decide) ?_
      refine lv_isub hx hb d_Mdl_writeRaw_24 ?_
      refine va_iald hx hb hK hP 1 0 rfl rfl (m_lin hM hbg (mhl_ne c5)) d_Mdl_writeRaw_25 ?_
      refine lv_sipush (v := 255) hx hb d_Mdl_writeRaw_26 (by decide) ?_
      refine lv_icmp_ne (tgt := 37) hx hb d_Mdl_writeRaw_29 (by decide) (fun c12 => ?_) (fun c12 => ?_)
      · have hq13 : ¬ mlast L = 255 := fun q => c12 ((m_lv hM hbg (mhl_ne c5)).trans q)
        refine lv_bipush (v := 8) hx hb d_Mdl_writeRaw_37 (by decide) ?_
        refine va_put (D := D) (ci := 9) (v := .int 8) (ty := .int) (C := R_Mdl) (T := T_Mdl) (N := 23) hx hb hts inw_Mdl ty_Mdl tyok_Mdl nm_Mdl hown hK hP hD hS 0 rfl rfl 13 (by decide) (hts (.fieldLink R_Mdl 63 "LikelyBitsModel" "room" "I") mw_335) (fun _ h9 => h9) rfl (by decide +kernel) rfl rfl (Nat.le_of_ble_eq_true rfl) d_Mdl_writeRaw_39 (fun H locs hP hD hS => ?_)
        have hP : va_P D vwCl [(h0, .inr (9, [.ref pP, .ref pO, .int th, .int sz, .ref pB, .ref pS, .ref pK, .int op, .int rw, .int bg, .int lo, .int cd, .int wd, .int 8, .int rg, .int rr, .int pl, .int lm, .int nx, .long av, .int sp, .int le, .int la])), (pB, .inl (k.1, 65536, .inl B))] H := hP
        have hD : va_D A [(h0, .inr (9, [.ref pP, .ref pO, .int th, .int sz, .ref pB, .ref pS, .ref pK, .int op, .int rw, .int bg, .int lo, .int cd, .int wd, .int 8, .int rg, .int rr, .int pl, .int lm, .int nx, .long av, .int sp, .int le, .int la])), (pB, .inl (k.1, 65536, .inl B))] := hD
        refine lv_aload_n hx hb d_Mdl_writeRaw_42 rfl (lv_at hl 0 rfl) ?_
        refine va_get (D := D) (ci := 9) (v := .ref pB) (C := R_Mdl) (T := T_Mdl) (N := 23) hx hb hts inw_Mdl hown hK hP 0 rfl rfl 4 (by decide) (hts (.fieldLink R_Mdl 17 "LikelyBitsModel" "bytes" "[I") mw_333) (fun _ h9 => h9) rfl d_Mdl_writeRaw_43 ?_
        refine lv_aload_n hx hb d_Mdl_writeRaw_46 rfl (lv_at hl 0 rfl) ?_
        refine va_get (D := D) (ci := 9) (v := .int sz) (C := R_Mdl) (T := T_Mdl) (N := 23) hx hb hts inw_Mdl hown hK hP 0 rfl rfl 3 (by decide) (hts (.fieldLink R_Mdl 30 "LikelyBitsModel" "size" "I") mw_324) (fun _ h9 => h9) rfl d_Mdl_writeRaw_47 ?_
        refine lv_iconst (v := 0) hx hb d_Mdl_writeRaw_50 (by decide) ?_
        refine va_iast hx hb hK hP hD hS 1 0 rfl rfl (m_stin hM (hrl c1)) d_Mdl_writeRaw_51 (fun H locs hP hD hS => ?_)
        have hP : va_P D vwCl [(h0, .inr (9, [.ref pP, .ref pO, .int th, .int sz, .ref pB, .ref pS, .ref pK, .int op, .int rw, .int bg, .int lo, .int cd, .int wd, .int 8, .int rg, .int rr, .int pl, .int lm, .int nx, .long av, .int sp, .int le, .int la])), (pB, .inl (k.1, 65536, .inl (upd B sz.toNatClampNeg 0)))] H := hP
        have hD : va_D A [(h0, .inr (9, [.ref pP, .ref pO, .int th, .int sz, .ref pB, .ref pS, .ref pK, .int op, .int rw, .int bg, .int lo, .int cd, .int wd, .int 8, .int rg, .int rr, .int pl, .int lm, .int nx, .long av, .int sp, .int le, .int la])), (pB, .inl (k.1, 65536, .inl (upd B sz.toNatClampNeg 0)))] := hD
        generalize hB14 : upd B sz.toNatClampNeg 0 = B14 at hP hD
        have hP : va_P D vwCl [(h0, .inr (9, [.ref pP, .ref pO, .int th, .int sz, .ref pB, .ref pS, .ref pK, .int op, .int rw, .int bg, .int lo, .int cd, .int wd, .int 8, .int rg, .int rr, .int pl, .int lm, .int nx, .long av, .int sp, .int le, .int la])), (pB, .inl (k.1, 65536, .inl B14))] H := hP
        have hD : va_D A [(h0, .inr (9, [.ref pP, .ref pO, .int th, .int sz, .ref pB, .ref pS, .ref pK, .int op, .int rw, .int bg, .int lo, .int cd, .int wd, .int 8, .int rg, .int rr, .int pl, .int lm, .int nx, .long av, .int sp, .int le, .int la])), (pB, .inl (k.1, 65536, .inl B14))] := hD
        have hM2 : row_ok 65536 B14 (sz + 1) (L ++ [0]) := by rw [← hB14]; exact m_app hM (hrl c1)
        have hp9 : 0 < (L ++ [(0 : Int32)]).length := by rw [len_app1]; omega
        refine lv_aload_n hx hb d_Mdl_writeRaw_52 rfl (lv_at hl 0 rfl) ?_
        refine lv_dup hx hb d_Mdl_writeRaw_53 rfl ?_
        refine va_get (D := D) (ci := 9) (v := .int sz) (C := R_Mdl) (T := T_Mdl) (N := 23) hx hb hts inw_Mdl hown hK hP 0 rfl rfl 3 (by decide) (hts (.fieldLink R_Mdl 30 "LikelyBitsModel" "size" "I") mw_324) (fun _ h9 => h9) rfl d_Mdl_writeRaw_54 ?_
        refine lv_iconst (v := 1) hx hb d_Mdl_writeRaw_57 (by decide) ?_
        refine lv_iadd hx hb d_Mdl_writeRaw_58 ?_
        refine lv_topi (fun x15 ex15 => ?_)
        refine va_put (D := D) (ci := 9) (v := .int x15) (ty := .int) (C := R_Mdl) (T := T_Mdl) (N := 23) hx hb hts inw_Mdl ty_Mdl tyok_Mdl nm_Mdl hown hK hP hD hS 0 rfl rfl 3 (by decide) (hts (.fieldLink R_Mdl 30 "LikelyBitsModel" "size" "I") mw_324) (fun _ h9 => h9) rfl (by decide +kernel) rfl rfl (Nat.le_of_ble_eq_true rfl) d_Mdl_writeRaw_59 (fun H locs hP hD hS => ?_)
        have hP : va_P D vwCl [(h0, .inr (9, [.ref pP, .ref pO, .int th, .int x15, .ref pB, .ref pS, .ref pK, .int op, .int rw, .int bg, .int lo, .int cd, .int wd, .int 8, .int rg, .int rr, .int pl, .int lm, .int nx, .long av, .int sp, .int le, .int la])), (pB, .inl (k.1, 65536, .inl B14))] H := hP
        have hD : va_D A [(h0, .inr (9, [.ref pP, .ref pO, .int th, .int x15, .ref pB, .ref pS, .ref pK, .int op, .int rw, .int bg, .int lo, .int cd, .int wd, .int 8, .int rg, .int rr, .int pl, .int lm, .int nx, .long av, .int sp, .int le, .int la])), (pB, .inl (k.1, 65536, .inl B14))] := hD
        have hM3 : row_ok 65536 B14 x15 (L ++ [0]) := by rw [ex15]; exact hM2
        refine lv_aload_n hx hb d_Mdl_writeRaw_62 rfl (lv_at hl 0 rfl) ?_
        refine lv_dup hx hb d_Mdl_writeRaw_63 rfl ?_
        refine va_get (D := D) (ci := 9) (v := .int 8) (C := R_Mdl) (T := T_Mdl) (N := 23) hx hb hts inw_Mdl hown hK hP 0 rfl rfl 13 (by decide) (hts (.fieldLink R_Mdl 63 "LikelyBitsModel" "room" "I") mw_335) (fun _ h9 => h9) rfl d_Mdl_writeRaw_64 ?_
        refine lv_iconst (v := 1) hx hb d_Mdl_writeRaw_67 (by decide) ?_
        refine lv_isub hx hb d_Mdl_writeRaw_68 ?_
        refine lv_topi (fun x16 ex16 => ?_)
        refine va_put (D := D) (ci := 9) (v := .int x16) (ty := .int) (C := R_Mdl) (T := T_Mdl) (N := 23) hx hb hts inw_Mdl ty_Mdl tyok_Mdl nm_Mdl hown hK hP hD hS 0 rfl rfl 13 (by decide) (hts (.fieldLink R_Mdl 63 "LikelyBitsModel" "room" "I") mw_335) (fun _ h9 => h9) rfl (by decide +kernel) rfl rfl (Nat.le_of_ble_eq_true rfl) d_Mdl_writeRaw_69 (fun H locs hP hD hS => ?_)
        have hP : va_P D vwCl [(h0, .inr (9, [.ref pP, .ref pO, .int th, .int x15, .ref pB, .ref pS, .ref pK, .int op, .int rw, .int bg, .int lo, .int cd, .int wd, .int x16, .int rg, .int rr, .int pl, .int lm, .int nx, .long av, .int sp, .int le, .int la])), (pB, .inl (k.1, 65536, .inl B14))] H := hP
        have hD : va_D A [(h0, .inr (9, [.ref pP, .ref pO, .int th, .int x15, .ref pB, .ref pS, .ref pK, .int op, .int rw, .int bg, .int lo, .int cd, .int wd, .int x16, .int rg, .int rr, .int pl, .int lm, .int nx, .long av, .int sp, .int le, .int la])), (pB, .inl (k.1, 65536, .inl B14))] := hD
        refine lv_aload_n hx hb d_Mdl_writeRaw_72 rfl (lv_at hl 0 rfl) ?_
        refine va_get (D := D) (ci := 9) (v := .ref pB) (C := R_Mdl) (T := T_Mdl) (N := 23) hx hb hts inw_Mdl hown hK hP 0 rfl rfl 4 (by decide) (hts (.fieldLink R_Mdl 17 "LikelyBitsModel" "bytes" "[I") mw_333) (fun _ h9 => h9) rfl d_Mdl_writeRaw_73 ?_
        refine lv_aload_n hx hb d_Mdl_writeRaw_76 rfl (lv_at hl 0 rfl) ?_
        refine va_get (D := D) (ci := 9) (v := .int x15) (C := R_Mdl) (T := T_Mdl) (N := 23) hx hb hts inw_Mdl hown hK hP 0 rfl rfl 3 (by decide) (hts (.fieldLink R_Mdl 30 "LikelyBitsModel" "size" "I") mw_324) (fun _ h9 => h9) rfl d_Mdl_writeRaw_77 ?_
        refine lv_iconst (v := 1) hx hb d_Mdl_writeRaw_80 (by decide) ?_
        refine lv_isub hx hb d_Mdl_writeRaw_81 ?_
        refine lv_aload_n hx hb d_Mdl_writeRaw_82 rfl (lv_at hl 0 rfl) ?_
        refine va_get (D := D) (ci := 9) (v := .ref pB) (C := R_Mdl) (T := T_Mdl) (N := 23) hx hb hts inw_Mdl hown hK hP 0 rfl rfl 4 (by decide) (hts (.fieldLink R_Mdl 17 "LikelyBitsModel" "bytes" "[I") mw_333) (fun _ h9 => h9) rfl d_Mdl_writeRaw_83 ?_
        refine lv_aload_n hx hb d_Mdl_writeRaw_86 rfl (lv_at hl 0 rfl) ?_
        refine va_get (D := D) (ci := 9) (v := .int x15) (C := R_Mdl) (T := T_Mdl) (N := 23) hx hb hts inw_Mdl hown hK hP 0 rfl rfl 3 (by decide) (hts (.fieldLink R_Mdl 30 "LikelyBitsModel" "size" "I") mw_324) (fun _ h9 => h9) rfl d_Mdl_writeRaw_87 ?_
        refine lv_iconst (v := 1) hx hb d_Mdl_writeRaw_90 (by decide) ?_
        refine lv_isub hx hb d_Mdl_writeRaw_91 ?_
        refine va_iald hx hb hK hP 1 0 rfl rfl (mp_in hM3 hp9) d_Mdl_writeRaw_92 ?_
        refine lv_iload_n hx hb d_Mdl_writeRaw_93 rfl (lv_at hl 1 rfl) ?_
        refine lv_aload_n hx hb d_Mdl_writeRaw_94 rfl (lv_at hl 0 rfl) ?_
        refine va_get (D := D) (ci := 9) (v := .int x16) (C := R_Mdl) (T := T_Mdl) (N := 23) hx hb hts inw_Mdl hown hK hP 0 rfl rfl 13 (by decide) (hts (.fieldLink R_Mdl 63 "LikelyBitsModel" "room" "I") mw_335) (fun _ h9 => h9) rfl d_Mdl_writeRaw_95 ?_
        refine lv_ishl hx hb d_Mdl_writeRaw_98 ?_
        refine lv_ior hx hb d_Mdl_writeRaw_99 ?_
        refine va_iast hx hb hK hP hD hS 1 0 rfl rfl (mp_in hM3 hp9) d_Mdl_writeRaw_100 (fun H locs hP hD hS => ?_)
        have hP : va_P D vwCl [(h0, .inr (9, [.ref pP, .ref pO, .int th, .int x15, .ref pB, .ref pS, .ref pK, .int op, .int rw, .int bg, .int lo, .int cd, .int wd, .int x16, .int rg, .int rr, .int pl, .int lm, .int nx, .long av, .int sp, .int le, .int la])), (pB, .inl (k.1, 65536, .inl (upd B14 (x15 - 1).toNatClampNeg ((B14 (x15 - 1).toNatClampNeg) ||| (b <<< (x16 &&& 31))))))] H := hP
        have hD : va_D A [(h0, .inr (9, [.ref pP, .ref pO, .int th, .int x15, .ref pB, .ref pS, .ref pK, .int op, .int rw, .int bg, .int lo, .int cd, .int wd, .int x16, .int rg, .int rr, .int pl, .int lm, .int nx, .long av, .int sp, .int le, .int la])), (pB, .inl (k.1, 65536, .inl (upd B14 (x15 - 1).toNatClampNeg ((B14 (x15 - 1).toNatClampNeg) ||| (b <<< (x16 &&& 31))))))] := hD
        generalize hB17 : upd B14 (x15 - 1).toNatClampNeg ((B14 (x15 - 1).toNatClampNeg) ||| (b <<< (x16 &&& 31))) = B17 at hP hD
        have hP : va_P D vwCl [(h0, .inr (9, [.ref pP, .ref pO, .int th, .int x15, .ref pB, .ref pS, .ref pK, .int op, .int rw, .int bg, .int lo, .int cd, .int wd, .int x16, .int rg, .int rr, .int pl, .int lm, .int nx, .long av, .int sp, .int le, .int la])), (pB, .inl (k.1, 65536, .inl B17))] H := hP
        have hD : va_D A [(h0, .inr (9, [.ref pP, .ref pO, .int th, .int x15, .ref pB, .ref pS, .ref pK, .int op, .int rw, .int bg, .int lo, .int cd, .int wd, .int x16, .int rg, .int rr, .int pl, .int lm, .int nx, .long av, .int sp, .int le, .int la])), (pB, .inl (k.1, 65536, .inl B17))] := hD
        have hM4 : row_ok 65536 B17 x15 (rs (L ++ [0]) (nI (L ++ [0]).length - 1) ((mlast (L ++ [0]) ||| (b <<< (x16 &&& 31))))) := by rw [← hB17, ← mp_lv hM3 hp9]; exact mp_set hM3 hp9
        exact krv (wo := wo_M_writeRaw k h0 pB pP pO pS pK th sz op rw bg lo cd wd rm rg rr pl lm nx av sp le la B L b) hx hb hr hlk hP hD hS (x16, rs (L ++ [0]) (nI (L ++ [0]).length - 1) ((mlast (L ++ [0]) ||| (b <<< (x16 &&& 31))))) (B17, x15) (by have hq : mrw bg rm L b = mr2 8 (L ++ [0]) b := (by rw [mrw, if_pos c1, if_neg hq11, if_neg hq13]); show _ = (mrw bg rm L b).1 ∧ _ = (mrw bg rm L b).2; rw [hq, mr2_eq ex16]; exact ⟨rfl, rfl⟩) (by unfold ex_M_writeRaw; exact hM4) [0, 1] rfl (by decide) (Nat.le_of_ble_eq_true rfl) (Nat.le_of_ble_eq_true rfl) d_Mdl_writeRaw_101
      · have hq18 : mlast L = 255 := (m_lv hM hbg (mhl_ne c5)).symm.trans c12
        refine lv_bipush (v := 7) hx hb d_Mdl_writeRaw_32 (by decide) ?_
        refine lv_goto (tgt := 39) hx hb d_Mdl_writeRaw_34 (by decide) ?_
        refine va_put (D := D) (ci := 9) (v := .int 7) (ty := .int) (C := R_Mdl) (T := T_Mdl) (N := 23) hx hb hts inw_Mdl ty_Mdl tyok_Mdl nm_Mdl hown hK hP hD hS 0 rfl rfl 13 (by decide) (hts (.fieldLink R_Mdl 63 "LikelyBitsModel" "room" "I") mw_335) (fun _ h9 => h9) rfl (by decide +kernel) rfl rfl (Nat.le_of_ble_eq_true rfl) d_Mdl_writeRaw_39 (fun H locs hP hD hS => ?_)
        have hP : va_P D vwCl [(h0, .inr (9, [.ref pP, .ref pO, .int th, .int sz, .ref pB, .ref pS, .ref pK, .int op, .int rw, .int bg, .int lo, .int cd, .int wd, .int 7, .int rg, .int rr, .int pl, .int lm, .int nx, .long av, .int sp, .int le, .int la])), (pB, .inl (k.1, 65536, .inl B))] H := hP
        have hD : va_D A [(h0, .inr (9, [.ref pP, .ref pO, .int th, .int sz, .ref pB, .ref pS, .ref pK, .int op, .int rw, .int bg, .int lo, .int cd, .int wd, .int 7, .int rg, .int rr, .int pl, .int lm, .int nx, .long av, .int sp, .int le, .int la])), (pB, .inl (k.1, 65536, .inl B))] := hD
        refine lv_aload_n hx hb d_Mdl_writeRaw_42 rfl (lv_at hl 0 rfl) ?_
        refine va_get (D := D) (ci := 9) (v := .ref pB) (C := R_Mdl) (T := T_Mdl) (N := 23) hx hb hts inw_Mdl hown hK hP 0 rfl rfl 4 (by decide) (hts (.fieldLink R_Mdl 17 "LikelyBitsModel" "bytes" "[I") mw_333) (fun _ h9 => h9) rfl d_Mdl_writeRaw_43 ?_
        refine lv_aload_n hx hb d_Mdl_writeRaw_46 rfl (lv_at hl 0 rfl) ?_
        refine va_get (D := D) (ci := 9) (v := .int sz) (C := R_Mdl) (T := T_Mdl) (N := 23) hx hb hts inw_Mdl hown hK hP 0 rfl rfl 3 (by decide) (hts (.fieldLink R_Mdl 30 "LikelyBitsModel" "size" "I") mw_324) (fun _ h9 => h9) rfl d_Mdl_writeRaw_47 ?_
        refine lv_iconst (v := 0) hx hb d_Mdl_writeRaw_50 (by decide) ?_
        refine va_iast hx hb hK hP hD hS 1 0 rfl rfl (m_stin hM (hrl c1)) d_Mdl_writeRaw_51 (fun H locs hP hD hS => ?_)
        have hP : va_P D vwCl [(h0, .inr (9, [.ref pP, .ref pO, .int th, .int sz, .ref pB, .ref pS, .ref pK, .int op, .int rw, .int bg, .int lo, .int cd, .int wd, .int 7, .int rg, .int rr, .int pl, .int lm, .int nx, .long av, .int sp, .int le, .int la])), (pB, .inl (k.1, 65536, .inl (upd B sz.toNatClampNeg 0)))] H := hP
        have hD : va_D A [(h0, .inr (9, [.ref pP, .ref pO, .int th, .int sz, .ref pB, .ref pS, .ref pK, .int op, .int rw, .int bg, .int lo, .int cd, .int wd, .int 7, .int rg, .int rr, .int pl, .int lm, .int nx, .long av, .int sp, .int le, .int la])), (pB, .inl (k.1, 65536, .inl (upd B sz.toNatClampNeg 0)))] := hD
        generalize hB19 : upd B sz.toNatClampNeg 0 = B19 at hP hD
        have hP : va_P D vwCl [(h0, .inr (9, [.ref pP, .ref pO, .int th, .int sz, .ref pB, .ref pS, .ref pK, .int op, .int rw, .int bg, .int lo, .int cd, .int wd, .int 7, .int rg, .int rr, .int pl, .int lm, .int nx, .long av, .int sp, .int le, .int la])), (pB, .inl (k.1, 65536, .inl B19))] H := hP
        have hD : va_D A [(h0, .inr (9, [.ref pP, .ref pO, .int th, .int sz, .ref pB, .ref pS, .ref pK, .int op, .int rw, .int bg, .int lo, .int cd, .int wd, .int 7, .int rg, .int rr, .int pl, .int lm, .int nx, .long av, .int sp, .int le, .int la])), (pB, .inl (k.1, 65536, .inl B19))] := hD
        have hM2 : row_ok 65536 B19 (sz + 1) (L ++ [0]) := by rw [← hB19]; exact m_app hM (hrl c1)
        have hp9 : 0 < (L ++ [(0 : Int32)]).length := by rw [len_app1]; omega
        refine lv_aload_n hx hb d_Mdl_writeRaw_52 rfl (lv_at hl 0 rfl) ?_
        refine lv_dup hx hb d_Mdl_writeRaw_53 rfl ?_
        refine va_get (D := D) (ci := 9) (v := .int sz) (C := R_Mdl) (T := T_Mdl) (N := 23) hx hb hts inw_Mdl hown hK hP 0 rfl rfl 3 (by decide) (hts (.fieldLink R_Mdl 30 "LikelyBitsModel" "size" "I") mw_324) (fun _ h9 => h9) rfl d_Mdl_writeRaw_54 ?_
        refine lv_iconst (v := 1) hx hb d_Mdl_writeRaw_57 (by decide) ?_
        refine lv_iadd hx hb d_Mdl_writeRaw_58 ?_
        refine lv_topi (fun x20 ex20 => ?_)
        refine va_put (D := D) (ci := 9) (v := .int x20) (ty := .int) (C := R_Mdl) (T := T_Mdl) (N := 23) hx hb hts inw_Mdl ty_Mdl tyok_Mdl nm_Mdl hown hK hP hD hS 0 rfl rfl 3 (by decide) (hts (.fieldLink R_Mdl 30 "LikelyBitsModel" "size" "I") mw_324) (fun _ h9 => h9) rfl (by decide +kernel) rfl rfl (Nat.le_of_ble_eq_true rfl) d_Mdl_writeRaw_59 (fun H locs hP hD hS => ?_)
        have hP : va_P D vwCl [(h0, .inr (9, [.ref pP, .ref pO, .int th, .int x20, .ref pB, .ref pS, .ref pK, .int op, .int rw, .int bg, .int lo, .int cd, .int wd, .int 7, .int rg, .int rr, .int pl, .int lm, .int nx, .long av, .int sp, .int le, .int la])), (pB, .inl (k.1, 65536, .inl B19))] H := hP
        have hD : va_D A [(h0, .inr (9, [.ref pP, .ref pO, .int th, .int x20, .ref pB, .ref pS, .ref pK, .int op, .int rw, .int bg, .int lo, .int cd, .int wd, .int 7, .int rg, .int rr, .int pl, .int lm, .int nx, .long av, .int sp, .int le, .int la])), (pB, .inl (k.1, 65536, .inl B19))] := hD
        have hM3 : row_ok 65536 B19 x20 (L ++ [0]) := by rw [ex20]; exact hM2
        refine lv_aload_n hx hb d_Mdl_writeRaw_62 rfl (lv_at hl 0 rfl) ?_
        refine lv_dup hx hb d_Mdl_writeRaw_63 rfl ?_
        refine va_get (D := D) (ci := 9) (v := .int 7) (C := R_Mdl) (T := T_Mdl) (N := 23) hx hb hts inw_Mdl hown hK hP 0 rfl rfl 13 (by decide) (hts (.fieldLink R_Mdl 63 "LikelyBitsModel" "room" "I") mw_335) (fun _ h9 => h9) rfl d_Mdl_writeRaw_64 ?_
        refine lv_iconst (v := 1) hx hb d_Mdl_writeRaw_67 (by decide) ?_
        refine lv_isub hx hb d_Mdl_writeRaw_68 ?_
        refine lv_topi (fun x21 ex21 => ?_)
        refine va_put (D := D) (ci := 9) (v := .int x21) (ty := .int) (C := R_Mdl) (T := T_Mdl) (N := 23) hx hb hts inw_Mdl ty_Mdl tyok_Mdl nm_Mdl hown hK hP hD hS 0 rfl rfl 13 (by decide) (hts (.fieldLink R_Mdl 63 "LikelyBitsModel" "room" "I") mw_335) (fun _ h9 => h9) rfl (by decide +kernel) rfl rfl (Nat.le_of_ble_eq_true rfl) d_Mdl_writeRaw_69 (fun H locs hP hD hS => ?_)
        have hP : va_P D vwCl [(h0, .inr (9, [.ref pP, .ref pO, .int th, .int x20, .ref pB, .ref pS, .ref pK, .int op, .int rw, .int bg, .int lo, .int cd, .int wd, .int x21, .int rg, .int rr, .int pl, .int lm, .int nx, .long av, .int sp, .int le, .int la])), (pB, .inl (k.1, 65536, .inl B19))] H := hP
        have hD : va_D A [(h0, .inr (9, [.ref pP, .ref pO, .int th, .int x20, .ref pB, .ref pS, .ref pK, .int op, .int rw, .int bg, .int lo, .int cd, .int wd, .int x21, .int rg, .int rr, .int pl, .int lm, .int nx, .long av, .int sp, .int le, .int la])), (pB, .inl (k.1, 65536, .inl B19))] := hD
        refine lv_aload_n hx hb d_Mdl_writeRaw_72 rfl (lv_at hl 0 rfl) ?_
        refine va_get (D := D) (ci := 9) (v := .ref pB) (C := R_Mdl) (T := T_Mdl) (N := 23) hx hb hts inw_Mdl hown hK hP 0 rfl rfl 4 (by decide) (hts (.fieldLink R_Mdl 17 "LikelyBitsModel" "bytes" "[I") mw_333) (fun _ h9 => h9) rfl d_Mdl_writeRaw_73 ?_
        refine lv_aload_n hx hb d_Mdl_writeRaw_76 rfl (lv_at hl 0 rfl) ?_
        refine va_get (D := D) (ci := 9) (v := .int x20) (C := R_Mdl) (T := T_Mdl) (N := 23) hx hb hts inw_Mdl hown hK hP 0 rfl rfl 3 (by decide) (hts (.fieldLink R_Mdl 30 "LikelyBitsModel" "size" "I") mw_324) (fun _ h9 => h9) rfl d_Mdl_writeRaw_77 ?_
        refine lv_iconst (v := 1) hx hb d_Mdl_writeRaw_80 (by decide) ?_
        refine lv_isub hx hb d_Mdl_writeRaw_81 ?_
        refine lv_aload_n hx hb d_Mdl_writeRaw_82 rfl (lv_at hl 0 rfl) ?_
        refine va_get (D := D) (ci := 9) (v := .ref pB) (C := R_Mdl) (T := T_Mdl) (N := 23) hx hb hts inw_Mdl hown hK hP 0 rfl rfl 4 (by decide) (hts (.fieldLink R_Mdl 17 "LikelyBitsModel" "bytes" "[I") mw_333) (fun _ h9 => h9) rfl d_Mdl_writeRaw_83 ?_
        refine lv_aload_n hx hb d_Mdl_writeRaw_86 rfl (lv_at hl 0 rfl) ?_
        refine va_get (D := D) (ci := 9) (v := .int x20) (C := R_Mdl) (T := T_Mdl) (N := 23) hx hb hts inw_Mdl hown hK hP 0 rfl rfl 3 (by decide) (hts (.fieldLink R_Mdl 30 "LikelyBitsModel" "size" "I") mw_324) (fun _ h9 => h9) rfl d_Mdl_writeRaw_87 ?_
        refine lv_iconst (v := 1) hx hb d_Mdl_writeRaw_90 (by decide) ?_
        refine lv_isub hx hb d_Mdl_writeRaw_91 ?_
        refine va_iald hx hb hK hP 1 0 rfl rfl (mp_in hM3 hp9) d_Mdl_writeRaw_92 ?_
        refine lv_iload_n hx hb d_Mdl_writeRaw_93 rfl (lv_at hl 1 rfl) ?_
        refine lv_aload_n hx hb d_Mdl_writeRaw_94 rfl (lv_at hl 0 rfl) ?_
        refine va_get (D := D) (ci := 9) (v := .int x21) (C := R_Mdl) (T := T_Mdl) (N := 23) hx hb hts inw_Mdl hown hK hP 0 rfl rfl 13 (by decide) (hts (.fieldLink R_Mdl 63 "LikelyBitsModel" "room" "I") mw_335) (fun _ h9 => h9) rfl d_Mdl_writeRaw_95 ?_
        refine lv_ishl hx hb d_Mdl_writeRaw_98 ?_
        refine lv_ior hx hb d_Mdl_writeRaw_99 ?_
        refine va_iast hx hb hK hP hD hS 1 0 rfl rfl (mp_in hM3 hp9) d_Mdl_writeRaw_100 (fun H locs hP hD hS => ?_)
        have hP : va_P D vwCl [(h0, .inr (9, [.ref pP, .ref pO, .int th, .int x20, .ref pB, .ref pS, .ref pK, .int op, .int rw, .int bg, .int lo, .int cd, .int wd, .int x21, .int rg, .int rr, .int pl, .int lm, .int nx, .long av, .int sp, .int le, .int la])), (pB, .inl (k.1, 65536, .inl (upd B19 (x20 - 1).toNatClampNeg ((B19 (x20 - 1).toNatClampNeg) ||| (b <<< (x21 &&& 31))))))] H := hP
        have hD : va_D A [(h0, .inr (9, [.ref pP, .ref pO, .int th, .int x20, .ref pB, .ref pS, .ref pK, .int op, .int rw, .int bg, .int lo, .int cd, .int wd, .int x21, .int rg, .int rr, .int pl, .int lm, .int nx, .long av, .int sp, .int le, .int la])), (pB, .inl (k.1, 65536, .inl (upd B19 (x20 - 1).toNatClampNeg ((B19 (x20 - 1).toNatClampNeg) ||| (b <<< (x21 &&& 31))))))] := hD
        generalize hB22 : upd B19 (x20 - 1).toNatClampNeg ((B19 (x20 - 1).toNatClampNeg) ||| (b <<< (x21 &&& 31))) = B22 at hP hD
        have hP : va_P D vwCl [(h0, .inr (9, [.ref pP, .ref pO, .int th, .int x20, .ref pB, .ref pS, .ref pK, .int op, .int rw, .int bg, .int lo, .int cd, .int wd, .int x21, .int rg, .int rr, .int pl, .int lm, .int nx, .long av, .int sp, .int le, .int la])), (pB, .inl (k.1, 65536, .inl B22))] H := hP
        have hD : va_D A [(h0, .inr (9, [.ref pP, .ref pO, .int th, .int x20, .ref pB, .ref pS, .ref pK, .int op, .int rw, .int bg, .int lo, .int cd, .int wd, .int x21, .int rg, .int rr, .int pl, .int lm, .int nx, .long av, .int sp, .int le, .int la])), (pB, .inl (k.1, 65536, .inl B22))] := hD
        have hM4 : row_ok 65536 B22 x20 (rs (L ++ [0]) (nI (L ++ [0]).length - 1) ((mlast (L ++ [0]) ||| (b <<< (x21 &&& 31))))) := by rw [← hB22, ← mp_lv hM3 hp9]; exact mp_set hM3 hp9
        exact krv (wo := wo_M_writeRaw k h0 pB pP pO pS pK th sz op rw bg lo cd wd rm rg rr pl lm nx av sp le la B L b) hx hb hr hlk hP hD hS (x21, rs (L ++ [0]) (nI (L ++ [0]).length - 1) ((mlast (L ++ [0]) ||| (b <<< (x21 &&& 31))))) (B22, x20) (by have hq : mrw bg rm L b = mr2 7 (L ++ [0]) b := (by rw [mrw, if_pos c1, if_neg hq11, if_pos hq18]); show _ = (mrw bg rm L b).1 ∧ _ = (mrw bg rm L b).2; rw [hq, mr2_eq ex21]; exact ⟨rfl, rfl⟩) (by unfold ex_M_writeRaw; exact hM4) [0, 1] rfl (by decide) (Nat.le_of_ble_eq_true rfl) (Nat.le_of_ble_eq_true rfl) d_Mdl_writeRaw_101

set_option maxHeartbeats 1000000 in
set_option maxRecDepth 100000 in
theorem c_M_byteAt (l : Launch) (hl9 : l.stackTraces = false) (D : va_G) (k : gK) (h0 pB : Nat) (pP : Nat) (pO : Nat) (pS : Nat) (pK : Nat) (th : Int32) (sz : Int32) (op : Int32) (rw : Int32) (bg : Int32) (lo : Int32) (cd : Int32) (wd : Int32) (rm : Int32) (rg : Int32) (rr : Int32) (pl : Int32) (lm : Int32) (nx : Int32) (av : Int64) (sp : Int32) (le : Int32) (la : Int32) (B : Nat → Int32) (L : List Int32) (x : Int32) (hM : row_ok 65536 B sz L) (hrd : rdok pl lm L) (hx0 : ¬ x < 0) : Met l y_Mdl_byteAt (.code y_Mdl_byteAt b_Mdl_byteAt 2 (some .int) :: AW) { frames := 0, cells := 0, slots := 0, locals := 0 } (va_Pc [.ref h0, .int x] (GR D k [(h0, .inr (9, [.ref pP, .ref pO, .int th, .int sz, .ref pB, .ref pS, .ref pK, .int op, .int rw, .int bg, .int lo, .int cd, .int wd, .int rm, .int rg, .int rr, .int pl, .int lm, .int nx, .long av, .int sp, .int le, .int la])), (pB, .inl (k.1, 65536, .inl B))])) (va_Qi (fun r (_ : Unit) => r = spk L pl lm x) (fun _ _ => True) (fun _ => False)) 0 0 (fun _ => False) := by
  refine kMetR (ws := [(h0, .inr (9, [.ref pP, .ref pO, .int th, .int sz, .ref pB, .ref pS, .ref pK, .int op, .int rw, .int bg, .int lo, .int cd, .int wd, .int rm, .int rg, .int rr, .int pl, .int lm, .int nx, .long av, .int sp, .int le, .int la])), (pB, .inl (k.1, 65536, .inl B))]) (by decide) (Nat.le_of_ble_eq_true rfl) (fun p e s m below meth c ls H Cc hP hS hl => ?_)
  obtain ⟨hx, hb, hml, hr, hlk, hown, hts, hK, hE, hin⟩ := Cc
  have hl : lv_has ls 2 [(0, .ref h0), (1, .int x)] := hl
  refine lv_iload_n hx hb d_Mdl_byteAt_0 rfl (lv_at hl 1 rfl) ?_
  refine lv_aload_n hx hb d_Mdl_byteAt_1 rfl (lv_at hl 0 rfl) ?_
  refine va_get (D := D) (ci := 9) (v := .int lm) (C := R_Mdl) (T := T_Mdl) (N := 23) hx hb hts inw_Mdl hown hK hP 0 rfl rfl 17 (by decide) (hts (.fieldLink R_Mdl 108 "LikelyBitsModel" "limit" "I") mw_355) (fun _ h9 => h9) rfl d_Mdl_byteAt_2 ?_
  refine lv_icmp_ge (tgt := 22) hx hb d_Mdl_byteAt_5 (by decide) (fun c1 => ?_) (fun c1 => ?_)
  · refine lv_sipush (v := 255) hx hb d_Mdl_byteAt_22 (by decide) ?_
    exact koi hx hb hr hlk hS (by rw [spk, if_pos c1]) (Nat.le_of_ble_eq_true rfl) (Nat.le_of_ble_eq_true rfl) d_Mdl_byteAt_25
  · refine lv_aload_n hx hb d_Mdl_byteAt_8 rfl (lv_at hl 0 rfl) ?_
    refine va_get (D := D) (ci := 9) (v := .ref pB) (C := R_Mdl) (T := T_Mdl) (N := 23) hx hb hts inw_Mdl hown hK hP 0 rfl rfl 4 (by decide) (hts (.fieldLink R_Mdl 17 "LikelyBitsModel" "bytes" "[I") mw_333) (fun _ h9 => h9) rfl d_Mdl_byteAt_9 ?_
    refine lv_aload_n hx hb d_Mdl_byteAt_12 rfl (lv_at hl 0 rfl) ?_
    refine va_get (D := D) (ci := 9) (v := .int pl) (C := R_Mdl) (T := T_Mdl) (N := 23) hx hb hts inw_Mdl hown hK hP 0 rfl rfl 16 (by decide) (hts (.fieldLink R_Mdl 111 "LikelyBitsModel" "place" "I") mw_356) (fun _ h9 => h9) rfl d_Mdl_byteAt_13 ?_
    refine lv_iload_n hx hb d_Mdl_byteAt_16 rfl (lv_at hl 1 rfl) ?_
    refine lv_iadd hx hb d_Mdl_byteAt_17 ?_
    refine va_iald hx hb hK hP 1 0 rfl rfl (rd_vin hM hrd hx0 c1) d_Mdl_byteAt_18 ?_
    refine lv_goto (tgt := 25) hx hb d_Mdl_byteAt_19 (by decide) ?_
    exact koi hx hb hr hlk hS (by rw [spk, if_neg c1]; exact rb_in hM (rd_in hrd hx0 c1).1 (by rw [hM.1]; exact (rd_in hrd hx0 c1).2)) (Nat.le_of_ble_eq_true rfl) (Nat.le_of_ble_eq_true rfl) d_Mdl_byteAt_25

def wo_M_comesIn (k : gK) (h0 pB : Nat) (pP : Nat) (pO : Nat) (pS : Nat) (pK : Nat) (th : Int32) (sz : Int32) (op : Int32) (rw : Int32) (bg : Int32) (lo : Int32) (cd : Int32) (wd : Int32) (rm : Int32) (rg : Int32) (rr : Int32) (pl : Int32) (lm : Int32) (nx : Int32) (av : Int64) (sp : Int32) (le : Int32) (la : Int32) (B : Nat → Int32) (L : List Int32) (zz : Unit) (uu : Int32 × Int32 × Int32) : va_W := match zz, uu with
  | _, (le2, la2, nx2) => [(h0, .inr (9, [.ref pP, .ref pO, .int th, .int sz, .ref pB, .ref pS, .ref pK, .int op, .int rw, .int bg, .int lo, .int cd, .int wd, .int rm, .int rg, .int rr, .int pl, .int lm, .int nx2, .long av, .int sp, .int le2, .int la2])), (pB, .inl (k.1, 65536, .inl B))]
def ex_M_comesIn (k : gK) (h0 pB : Nat) (pP : Nat) (pO : Nat) (pS : Nat) (pK : Nat) (th : Int32) (sz : Int32) (op : Int32) (rw : Int32) (bg : Int32) (lo : Int32) (cd : Int32) (wd : Int32) (rm : Int32) (rg : Int32) (rr : Int32) (pl : Int32) (lm : Int32) (nx : Int32) (av : Int64) (sp : Int32) (le : Int32) (la : Int32) (B : Nat → Int32) (L : List Int32) (zz : Unit) (uu : Int32 × Int32 × Int32) : Prop := match zz, uu with
  | _, (le2, la2, nx2) => True
def po_M_comesIn (k : gK) (h0 pB : Nat) (pP : Nat) (pO : Nat) (pS : Nat) (pK : Nat) (th : Int32) (sz : Int32) (op : Int32) (rw : Int32) (bg : Int32) (lo : Int32) (cd : Int32) (wd : Int32) (rm : Int32) (rg : Int32) (rr : Int32) (pl : Int32) (lm : Int32) (nx : Int32) (av : Int64) (sp : Int32) (le : Int32) (la : Int32) (B : Nat → Int32) (L : List Int32) (r : Int32) (uu : Int32 × Int32 × Int32) : Prop := match uu with
  | (le2, la2, nx2) => r = (mci L pl lm nx la).1 ∧ le2 = (mci L pl lm nx la).2.1 ∧ la2 = (mci L pl lm nx la).2.2.1 ∧ nx2 = (mci L pl lm nx la).2.2.2
def qc_M_comesIn (D : va_G) (k : gK) (h0 pB : Nat) (pP : Nat) (pO : Nat) (pS : Nat) (pK : Nat) (th : Int32) (sz : Int32) (op : Int32) (rw : Int32) (bg : Int32) (lo : Int32) (cd : Int32) (wd : Int32) (rm : Int32) (rg : Int32) (rr : Int32) (pl : Int32) (lm : Int32) (nx : Int32) (av : Int64) (sp : Int32) (le : Int32) (la : Int32) (B : Nat → Int32) (L : List Int32) (A : Nat → Prop) : Array Value → State → Outcome → State → Prop := va_Qi (po_M_comesIn k h0 pB pP pO pS pK th sz op rw bg lo cd wd rm rg rr pl lm nx av sp le la B L) (fun uu t => ∃ zz, ex_M_comesIn k h0 pB pP pO pS pK th sz op rw bg lo cd wd rm rg rr pl lm nx av sp le la B L zz uu ∧ GP D A (wo_M_comesIn k h0 pB pP pO pS pK th sz op rw bg lo cd wd rm rg rr pl lm nx av sp le la B L zz uu) t) A
set_option maxHeartbeats 1000000 in
set_option maxRecDepth 100000 in
theorem c_M_comesIn (l : Launch) (hl9 : l.stackTraces = false) (D : va_G) (k : gK) (h0 pB : Nat) (zsz : Nat) (pP : Nat) (pO : Nat) (pS : Nat) (pK : Nat) (th : Int32) (sz : Int32) (op : Int32) (rw : Int32) (bg : Int32) (lo : Int32) (cd : Int32) (wd : Int32) (rm : Int32) (rg : Int32) (rr : Int32) (pl : Int32) (lm : Int32) (nx : Int32) (av : Int64) (sp : Int32) (le : Int32) (la : Int32) (B : Nat → Int32) (L : List Int32) (hM : row_ok 65536 B sz L) (hrd : rdok pl lm L) (hnx : ¬ nx < 0) : Met l y_Mdl_comesIn (.code y_Mdl_comesIn b_Mdl_comesIn 1 (some .int) :: AW) ({ frames := 1, cells := 0, slots := 0, locals := 21 }) (va_Pc [.ref h0] (GG D k [(h0, .inr (9, [.ref pP, .ref pO, .int th, .int sz, .ref pB, .ref pS, .ref pK, .int op, .int rw, .int bg, .int lo, .int cd, .int wd, .int rm, .int rg, .int rr, .int pl, .int lm, .int nx, .long av, .int sp, .int le, .int la])), (pB, .inl (k.1, 65536, .inl B))] zsz)) (qc_M_comesIn D k h0 pB pP pO pS pK th sz op rw bg lo cd wd rm rg rr pl lm nx av sp le la B L (va_A [(h0, .inr (9, [.ref pP, .ref pO, .int th, .int sz, .ref pB, .ref pS, .ref pK, .int op, .int rw, .int bg, .int lo, .int cd, .int wd, .int rm, .int rg, .int rr, .int pl, .int lm, .int nx, .long av, .int sp, .int le, .int la])), (pB, .inl (k.1, 65536, .inl B))] zsz)) 0 0 (va_A [(h0, .inr (9, [.ref pP, .ref pO, .int th, .int sz, .ref pB, .ref pS, .ref pK, .int op, .int rw, .int bg, .int lo, .int cd, .int wd, .int rm, .int rg, .int rr, .int pl, .int lm, .int nx, .long av, .int sp, .int le, .int la])), (pB, .inl (k.1, 65536, .inl B))] zsz) := by
  refine kMet (ws := [(h0, .inr (9, [.ref pP, .ref pO, .int th, .int sz, .ref pB, .ref pS, .ref pK, .int op, .int rw, .int bg, .int lo, .int cd, .int wd, .int rm, .int rg, .int rr, .int pl, .int lm, .int nx, .long av, .int sp, .int le, .int la])), (pB, .inl (k.1, 65536, .inl B))]) (Qc := qc_M_comesIn D k h0 pB pP pO pS pK th sz op rw bg lo cd wd rm rg rr pl lm nx av sp le la B L) (by decide) (Nat.le_of_ble_eq_true rfl) (fun p e s m below meth c ls A H Cc hP hD hA hS hl => ?_)
  obtain ⟨hx, hb, hml, hr, hlk, hown, hts, hK, hE, hin⟩ := Cc
  have hl : lv_has ls 1 [(0, .ref h0)] := hl
  refine lv_aload_n hx hb d_Mdl_comesIn_0 rfl (lv_at hl 0 rfl) ?_
  refine lv_bipush (v := 8) hx hb d_Mdl_comesIn_1 (by decide) ?_
  refine va_put (D := D) (ci := 9) (v := .int 8) (ty := .int) (C := R_Mdl) (T := T_Mdl) (N := 23) hx hb hts inw_Mdl ty_Mdl tyok_Mdl nm_Mdl hown hK hP hD hS 0 rfl rfl 21 (by decide) (hts (.fieldLink R_Mdl 120 "LikelyBitsModel" "left" "I") mw_357) (fun _ h9 => h9) rfl (by decide +kernel) rfl rfl (Nat.le_of_ble_eq_true rfl) d_Mdl_comesIn_3 (fun H locs hP hD hS => ?_)
  have hP : va_P D vwCl [(h0, .inr (9, [.ref pP, .ref pO, .int th, .int sz, .ref pB, .ref pS, .ref pK, .int op, .int rw, .int bg, .int lo, .int cd, .int wd, .int rm, .int rg, .int rr, .int pl, .int lm, .int nx, .long av, .int sp, .int 8, .int la])), (pB, .inl (k.1, 65536, .inl B))] H := hP
  have hD : va_D A [(h0, .inr (9, [.ref pP, .ref pO, .int th, .int sz, .ref pB, .ref pS, .ref pK, .int op, .int rw, .int bg, .int lo, .int cd, .int wd, .int rm, .int rg, .int rr, .int pl, .int lm, .int nx, .long av, .int sp, .int 8, .int la])), (pB, .inl (k.1, 65536, .inl B))] := hD
  refine lv_aload_n hx hb d_Mdl_comesIn_6 rfl (lv_at hl 0 rfl) ?_
  refine va_get (D := D) (ci := 9) (v := .int la) (C := R_Mdl) (T := T_Mdl) (N := 23) hx hb hts inw_Mdl hown hK hP 0 rfl rfl 22 (by decide) (hts (.fieldLink R_Mdl 123 "LikelyBitsModel" "last" "I") mw_358) (fun _ h9 => h9) rfl d_Mdl_comesIn_7 ?_
  refine lv_sipush (v := 255) hx hb d_Mdl_comesIn_10 (by decide) ?_
  refine lv_icmp_eq (tgt := 46) hx hb d_Mdl_comesIn_13 (by decide) (fun c1 => ?_) (fun c1 => ?_)
  · refine lv_aload_n hx hb d_Mdl_comesIn_46 rfl (lv_at hl 0 rfl) ?_
    refine lv_aload_n hx hb d_Mdl_comesIn_47 rfl (lv_at hl 0 rfl) ?_
    refine va_get (D := D) (ci := 9) (v := .int nx) (C := R_Mdl) (T := T_Mdl) (N := 23) hx hb hts inw_Mdl hown hK hP 0 rfl rfl 18 (by decide) (hts (.fieldLink R_Mdl 117 "LikelyBitsModel" "next" "I") mw_359) (fun _ h9 => h9) rfl d_Mdl_comesIn_48 ?_
    refine kqi (va_runV (As := [.int nx]) (rest := []) ⟨hx, hb, hml, hown, hts⟩ (c_M_byteAt l hl9 D k h0 pB pP pO pS pK th sz op rw bg lo cd wd rm rg rr pl lm nx av sp 8 la B L nx (by assumption) (by assumption) (by assumption)) (cwV 1 hts (gV mw_360 mw_361 mw_362 mw_331 mw_363) rfl rfl rfl (by decide +kernel) ⟨(Nat.le_of_ble_eq_true rfl), (Nat.le_of_ble_eq_true rfl)⟩) (kRecv (q := (R_Mdl, T_Mdl, 23)) (q0 := 0) (ci := 9) hK hP rfl rfl (kPreR (wc := [(h0, .inr (9, [.ref pP, .ref pO, .int th, .int sz, .ref pB, .ref pS, .ref pK, .int op, .int rw, .int bg, .int lo, .int cd, .int wd, .int rm, .int rg, .int rr, .int pl, .int lm, .int nx, .long av, .int sp, .int 8, .int la])), (pB, .inl (k.1, 65536, .inl B))]) hE hK hP hS [0, 1] rfl)) rfl rfl hl.1 rfl (lv_room (Nat.le_of_ble_eq_true rfl)) d_Mdl_comesIn_51 ⟨(Nat.le_of_ble_eq_true rfl), (Nat.le_of_ble_eq_true rfl)⟩) hP hS (fun r2 H locs hw hP hS => ?_)
    replace hw := hw.symm
    subst hw
    refine lv_sipush (v := 143) hx hb d_Mdl_comesIn_54 (by decide) ?_
    refine lv_icmp_le (tgt := 63) hx hb d_Mdl_comesIn_57 (by decide) (fun c3 => ?_) (fun c3 => ?_)
    · refine lv_aload_n hx hb d_Mdl_comesIn_63 rfl (lv_at hl 0 rfl) ?_
      refine lv_aload_n hx hb d_Mdl_comesIn_64 rfl (lv_at hl 0 rfl) ?_
      refine lv_aload_n hx hb d_Mdl_comesIn_65 rfl (lv_at hl 0 rfl) ?_
      refine va_get (D := D) (ci := 9) (v := .int nx) (C := R_Mdl) (T := T_Mdl) (N := 23) hx hb hts inw_Mdl hown hK hP 0 rfl rfl 18 (by decide) (hts (.fieldLink R_Mdl 117 "LikelyBitsModel" "next" "I") mw_359) (fun _ h9 => h9) rfl d_Mdl_comesIn_66 ?_
      refine kqi (va_runV (As := [.int nx]) (rest := [.ref h0]) ⟨hx, hb, hml, hown, hts⟩ (c_M_byteAt l hl9 D k h0 pB pP pO pS pK th sz op rw bg lo cd wd rm rg rr pl lm nx av sp 8 la B L nx (by assumption) (by assumption) (by assumption)) (cwV 1 hts (gV mw_360 mw_361 mw_362 mw_331 mw_363) rfl rfl rfl (by decide +kernel) ⟨(Nat.le_of_ble_eq_true rfl), (Nat.le_of_ble_eq_true rfl)⟩) (kRecv (q := (R_Mdl, T_Mdl, 23)) (q0 := 0) (ci := 9) hK hP rfl rfl (kPreR (wc := [(h0, .inr (9, [.ref pP, .ref pO, .int th, .int sz, .ref pB, .ref pS, .ref pK, .int op, .int rw, .int bg, .int lo, .int cd, .int wd, .int rm, .int rg, .int rr, .int pl, .int lm, .int nx, .long av, .int sp, .int 8, .int la])), (pB, .inl (k.1, 65536, .inl B))]) hE hK hP hS [0, 1] rfl)) rfl rfl hl.1 rfl (lv_room (Nat.le_of_ble_eq_true rfl)) d_Mdl_comesIn_69 ⟨(Nat.le_of_ble_eq_true rfl), (Nat.le_of_ble_eq_true rfl)⟩) hP hS (fun r4 H locs hw hP hS => ?_)
      replace hw := hw.symm
      subst hw
      refine lv_topi (fun x5 ex5 => ?_)
      refine va_put (D := D) (ci := 9) (v := .int x5) (ty := .int) (C := R_Mdl) (T := T_Mdl) (N := 23) hx hb hts inw_Mdl ty_Mdl tyok_Mdl nm_Mdl hown hK hP hD hS 0 rfl rfl 22 (by decide) (hts (.fieldLink R_Mdl 123 "LikelyBitsModel" "last" "I") mw_358) (fun _ h9 => h9) rfl (by decide +kernel) rfl rfl (Nat.le_of_ble_eq_true rfl) d_Mdl_comesIn_72 (fun H locs hP hD hS => ?_)
      have hP : va_P D vwCl [(h0, .inr (9, [.ref pP, .ref pO, .int th, .int sz, .ref pB, .ref pS, .ref pK, .int op, .int rw, .int bg, .int lo, .int cd, .int wd, .int rm, .int rg, .int rr, .int pl, .int lm, .int nx, .long av, .int sp, .int 8, .int x5])), (pB, .inl (k.1, 65536, .inl B))] H := hP
      have hD : va_D A [(h0, .inr (9, [.ref pP, .ref pO, .int th, .int sz, .ref pB, .ref pS, .ref pK, .int op, .int rw, .int bg, .int lo, .int cd, .int wd, .int rm, .int rg, .int rr, .int pl, .int lm, .int nx, .long av, .int sp, .int 8, .int x5])), (pB, .inl (k.1, 65536, .inl B))] := hD
      refine lv_aload_n hx hb d_Mdl_comesIn_75 rfl (lv_at hl 0 rfl) ?_
      refine lv_dup hx hb d_Mdl_comesIn_76 rfl ?_
      refine va_get (D := D) (ci := 9) (v := .int nx) (C := R_Mdl) (T := T_Mdl) (N := 23) hx hb hts inw_Mdl hown hK hP 0 rfl rfl 18 (by decide) (hts (.fieldLink R_Mdl 117 "LikelyBitsModel" "next" "I") mw_359) (fun _ h9 => h9) rfl d_Mdl_comesIn_77 ?_
      refine lv_iconst (v := 1) hx hb d_Mdl_comesIn_80 (by decide) ?_
      refine lv_iadd hx hb d_Mdl_comesIn_81 ?_
      refine lv_topi (fun x6 ex6 => ?_)
      refine va_put (D := D) (ci := 9) (v := .int x6) (ty := .int) (C := R_Mdl) (T := T_Mdl) (N := 23) hx hb hts inw_Mdl ty_Mdl tyok_Mdl nm_Mdl hown hK hP hD hS 0 rfl rfl 18 (by decide) (hts (.fieldLink R_Mdl 117 "LikelyBitsModel" "next" "I") mw_359) (fun _ h9 => h9) rfl (by decide +kernel) rfl rfl (Nat.le_of_ble_eq_true rfl) d_Mdl_comesIn_82 (fun H locs hP hD hS => ?_)
      have hP : va_P D vwCl [(h0, .inr (9, [.ref pP, .ref pO, .int th, .int sz, .ref pB, .ref pS, .ref pK, .int op, .int rw, .int bg, .int lo, .int cd, .int wd, .int rm, .int rg, .int rr, .int pl, .int lm, .int x6, .long av, .int sp, .int 8, .int x5])), (pB, .inl (k.1, 65536, .inl B))] H := hP
      have hD : va_D A [(h0, .inr (9, [.ref pP, .ref pO, .int th, .int sz, .ref pB, .ref pS, .ref pK, .int op, .int rw, .int bg, .int lo, .int cd, .int wd, .int rm, .int rg, .int rr, .int pl, .int lm, .int x6, .long av, .int sp, .int 8, .int x5])), (pB, .inl (k.1, 65536, .inl B))] := hD
      refine lv_aload_n hx hb d_Mdl_comesIn_85 rfl (lv_at hl 0 rfl) ?_
      refine lv_bipush (v := 7) hx hb d_Mdl_comesIn_86 (by decide) ?_
      refine va_put (D := D) (ci := 9) (v := .int 7) (ty := .int) (C := R_Mdl) (T := T_Mdl) (N := 23) hx hb hts inw_Mdl ty_Mdl tyok_Mdl nm_Mdl hown hK hP hD hS 0 rfl rfl 21 (by decide) (hts (.fieldLink R_Mdl 120 "LikelyBitsModel" "left" "I") mw_357) (fun _ h9 => h9) rfl (by decide +kernel) rfl rfl (Nat.le_of_ble_eq_true rfl) d_Mdl_comesIn_88 (fun H locs hP hD hS => ?_)
      have hP : va_P D vwCl [(h0, .inr (9, [.ref pP, .ref pO, .int th, .int sz, .ref pB, .ref pS, .ref pK, .int op, .int rw, .int bg, .int lo, .int cd, .int wd, .int rm, .int rg, .int rr, .int pl, .int lm, .int x6, .long av, .int sp, .int 7, .int x5])), (pB, .inl (k.1, 65536, .inl B))] H := hP
      have hD : va_D A [(h0, .inr (9, [.ref pP, .ref pO, .int th, .int sz, .ref pB, .ref pS, .ref pK, .int op, .int rw, .int bg, .int lo, .int cd, .int wd, .int rm, .int rg, .int rr, .int pl, .int lm, .int x6, .long av, .int sp, .int 7, .int x5])), (pB, .inl (k.1, 65536, .inl B))] := hD
      refine lv_aload_n hx hb d_Mdl_comesIn_91 rfl (lv_at hl 0 rfl) ?_
      refine va_get (D := D) (ci := 9) (v := .int x5) (C := R_Mdl) (T := T_Mdl) (N := 23) hx hb hts inw_Mdl hown hK hP 0 rfl rfl 22 (by decide) (hts (.fieldLink R_Mdl 123 "LikelyBitsModel" "last" "I") mw_358) (fun _ h9 => h9) rfl d_Mdl_comesIn_92 ?_
      refine lv_bipush (v := 9) hx hb d_Mdl_comesIn_95 (by decide) ?_
      refine lv_ishl hx hb d_Mdl_comesIn_97 ?_
      exact kri (wo := wo_M_comesIn k h0 pB pP pO pS pK th sz op rw bg lo cd wd rm rg rr pl lm nx av sp le la B L) hx hb hr hlk hP hD hS (7, x5, x6) () (by subst ex6; subst ex5; simp [po_M_comesIn, mci, c1, c3]) trivial [0, 1] rfl (by decide) (Nat.le_of_ble_eq_true rfl) (Nat.le_of_ble_eq_true rfl) d_Mdl_comesIn_98
    · refine lv_ldc (v := 65280) hx hb hown (hts (.constant R_Mdl 141 65280) mw_364) d_Mdl_comesIn_60 ?_
      exact kri (wo := wo_M_comesIn k h0 pB pP pO pS pK th sz op rw bg lo cd wd rm rg rr pl lm nx av sp le la B L) hx hb hr hlk hP hD hS (8, la, nx) () (by simp [po_M_comesIn, mci, c1, c3]) trivial [0, 1] rfl (by decide) (Nat.le_of_ble_eq_true rfl) (Nat.le_of_ble_eq_true rfl) d_Mdl_comesIn_62
  · refine lv_aload_n hx hb d_Mdl_comesIn_16 rfl (lv_at hl 0 rfl) ?_
    refine lv_aload_n hx hb d_Mdl_comesIn_17 rfl (lv_at hl 0 rfl) ?_
    refine lv_aload_n hx hb d_Mdl_comesIn_18 rfl (lv_at hl 0 rfl) ?_
    refine va_get (D := D) (ci := 9) (v := .int nx) (C := R_Mdl) (T := T_Mdl) (N := 23) hx hb hts inw_Mdl hown hK hP 0 rfl rfl 18 (by decide) (hts (.fieldLink R_Mdl 117 "LikelyBitsModel" "next" "I") mw_359) (fun _ h9 => h9) rfl d_Mdl_comesIn_19 ?_
    refine kqi (va_runV (As := [.int nx]) (rest := [.ref h0]) ⟨hx, hb, hml, hown, hts⟩ (c_M_byteAt l hl9 D k h0 pB pP pO pS pK th sz op rw bg lo cd wd rm rg rr pl lm nx av sp 8 la B L nx (by assumption) (by assumption) (by assumption)) (cwV 1 hts (gV mw_360 mw_361 mw_362 mw_331 mw_363) rfl rfl rfl (by decide +kernel) ⟨(Nat.le_of_ble_eq_true rfl), (Nat.le_of_ble_eq_true rfl)⟩) (kRecv (q := (R_Mdl, T_Mdl, 23)) (q0 := 0) (ci := 9) hK hP rfl rfl (kPreR (wc := [(h0, .inr (9, [.ref pP, .ref pO, .int th, .int sz, .ref pB, .ref pS, .ref pK, .int op, .int rw, .int bg, .int lo, .int cd, .int wd, .int rm, .int rg, .int rr, .int pl, .int lm, .int nx, .long av, .int sp, .int 8, .int la])), (pB, .inl (k.1, 65536, .inl B))]) hE hK hP hS [0, 1] rfl)) rfl rfl hl.1 rfl (lv_room (Nat.le_of_ble_eq_true rfl)) d_Mdl_comesIn_22 ⟨(Nat.le_of_ble_eq_true rfl), (Nat.le_of_ble_eq_true rfl)⟩) hP hS (fun r7 H locs hw hP hS => ?_)
    replace hw := hw.symm
    subst hw
    refine lv_topi (fun x8 ex8 => ?_)
    refine va_put (D := D) (ci := 9) (v := .int x8) (ty := .int) (C := R_Mdl) (T := T_Mdl) (N := 23) hx hb hts inw_Mdl ty_Mdl tyok_Mdl nm_Mdl hown hK hP hD hS 0 rfl rfl 22 (by decide) (hts (.fieldLink R_Mdl 123 "LikelyBitsModel" "last" "I") mw_358) (fun _ h9 => h9) rfl (by decide +kernel) rfl rfl (Nat.le_of_ble_eq_true rfl) d_Mdl_comesIn_25 (fun H locs hP hD hS => ?_)
    have hP : va_P D vwCl [(h0, .inr (9, [.ref pP, .ref pO, .int th, .int sz, .ref pB, .ref pS, .ref pK, .int op, .int rw, .int bg, .int lo, .int cd, .int wd, .int rm, .int rg, .int rr, .int pl, .int lm, .int nx, .long av, .int sp, .int 8, .int x8])), (pB, .inl (k.1, 65536, .inl B))] H := hP
    have hD : va_D A [(h0, .inr (9, [.ref pP, .ref pO, .int th, .int sz, .ref pB, .ref pS, .ref pK, .int op, .int rw, .int bg, .int lo, .int cd, .int wd, .int rm, .int rg, .int rr, .int pl, .int lm, .int nx, .long av, .int sp, .int 8, .int x8])), (pB, .inl (k.1, 65536, .inl B))] := hD
    refine lv_aload_n hx hb d_Mdl_comesIn_28 rfl (lv_at hl 0 rfl) ?_
    refine lv_dup hx hb d_Mdl_comesIn_29 rfl ?_
    refine va_get (D := D) (ci := 9) (v := .int nx) (C := R_Mdl) (T := T_Mdl) (N := 23) hx hb hts inw_Mdl hown hK hP 0 rfl rfl 18 (by decide) (hts (.fieldLink R_Mdl 117 "LikelyBitsModel" "next" "I") mw_359) (fun _ h9 => h9) rfl d_Mdl_comesIn_30 ?_
    refine lv_iconst (v := 1) hx hb d_Mdl_comesIn_33 (by decide) ?_
    refine lv_iadd hx hb d_Mdl_comesIn_34 ?_
    refine lv_topi (fun x9 ex9 => ?_)
    refine va_put (D := D) (ci := 9) (v := .int x9) (ty := .int) (C := R_Mdl) (T := T_Mdl) (N := 23) hx hb hts inw_Mdl ty_Mdl tyok_Mdl nm_Mdl hown hK hP hD hS 0 rfl rfl 18 (by decide) (hts (.fieldLink R_Mdl 117 "LikelyBitsModel" "next" "I") mw_359) (fun _ h9 => h9) rfl (by decide +kernel) rfl rfl (Nat.le_of_ble_eq_true rfl) d_Mdl_comesIn_35 (fun H locs hP hD hS => ?_)
    have hP : va_P D vwCl [(h0, .inr (9, [.ref pP, .ref pO, .int th, .int sz, .ref pB, .ref pS, .ref pK, .int op, .int rw, .int bg, .int lo, .int cd, .int wd, .int rm, .int rg, .int rr, .int pl, .int lm, .int x9, .long av, .int sp, .int 8, .int x8])), (pB, .inl (k.1, 65536, .inl B))] H := hP
    have hD : va_D A [(h0, .inr (9, [.ref pP, .ref pO, .int th, .int sz, .ref pB, .ref pS, .ref pK, .int op, .int rw, .int bg, .int lo, .int cd, .int wd, .int rm, .int rg, .int rr, .int pl, .int lm, .int x9, .long av, .int sp, .int 8, .int x8])), (pB, .inl (k.1, 65536, .inl B))] := hD
    refine lv_aload_n hx hb d_Mdl_comesIn_38 rfl (lv_at hl 0 rfl) ?_
    refine va_get (D := D) (ci := 9) (v := .int x8) (C := R_Mdl) (T := T_Mdl) (N := 23) hx hb hts inw_Mdl hown hK hP 0 rfl rfl 22 (by decide) (hts (.fieldLink R_Mdl 123 "LikelyBitsModel" "last" "I") mw_358) (fun _ h9 => h9) rfl d_Mdl_comesIn_39 ?_
    refine lv_bipush (v := 8) hx hb d_Mdl_comesIn_42 (by decide) ?_
    refine lv_ishl hx hb d_Mdl_comesIn_44 ?_
    exact kri (wo := wo_M_comesIn k h0 pB pP pO pS pK th sz op rw bg lo cd wd rm rg rr pl lm nx av sp le la B L) hx hb hr hlk hP hD hS (8, x8, x9) () (by subst ex9; subst ex8; simp [po_M_comesIn, mci, c1]) trivial [0, 1] rfl (by decide) (Nat.le_of_ble_eq_true rfl) (Nat.le_of_ble_eq_true rfl) d_Mdl_comesIn_45

def wo_M_round (k : gK) (h0 : Nat) (pP : Nat) (pO : Nat) (pB : Nat) (pS : Nat) (pK : Nat) (th : Int32) (sz : Int32) (op : Int32) (rw : Int32) (bg : Int32) (lo : Int32) (cd : Int32) (wd : Int32) (rm : Int32) (rg : Int32) (rr : Int32) (pl : Int32) (lm : Int32) (nx : Int32) (av : Int64) (sp : Int32) (le : Int32) (la : Int32) (zz : Unit) (uu : Int64) : va_W := match zz, uu with
  | _, av2 => [(h0, .inr (9, [.ref pP, .ref pO, .int th, .int sz, .ref pB, .ref pS, .ref pK, .int op, .int rw, .int bg, .int lo, .int cd, .int wd, .int rm, .int rg, .int rr, .int pl, .int lm, .int nx, .long av2, .int sp, .int le, .int la]))]
def ex_M_round (k : gK) (h0 : Nat) (pP : Nat) (pO : Nat) (pB : Nat) (pS : Nat) (pK : Nat) (th : Int32) (sz : Int32) (op : Int32) (rw : Int32) (bg : Int32) (lo : Int32) (cd : Int32) (wd : Int32) (rm : Int32) (rg : Int32) (rr : Int32) (pl : Int32) (lm : Int32) (nx : Int32) (av : Int64) (sp : Int32) (le : Int32) (la : Int32) (zz : Unit) (uu : Int64) : Prop := match zz, uu with
  | _, av2 => True
def po_M_round (k : gK) (h0 : Nat) (pP : Nat) (pO : Nat) (pB : Nat) (pS : Nat) (pK : Nat) (th : Int32) (sz : Int32) (op : Int32) (rw : Int32) (bg : Int32) (lo : Int32) (cd : Int32) (wd : Int32) (rm : Int32) (rg : Int32) (rr : Int32) (pl : Int32) (lm : Int32) (nx : Int32) (av : Int64) (sp : Int32) (le : Int32) (la : Int32) (uu : Int64) : Prop := match uu with
  | av2 => av2 = mrd sp av
def qc_M_round (D : va_G) (k : gK) (h0 : Nat) (pP : Nat) (pO : Nat) (pB : Nat) (pS : Nat) (pK : Nat) (th : Int32) (sz : Int32) (op : Int32) (rw : Int32) (bg : Int32) (lo : Int32) (cd : Int32) (wd : Int32) (rm : Int32) (rg : Int32) (rr : Int32) (pl : Int32) (lm : Int32) (nx : Int32) (av : Int64) (sp : Int32) (le : Int32) (la : Int32) (A : Nat → Prop) : Array Value → State → Outcome → State → Prop := va_Qv (po_M_round k h0 pP pO pB pS pK th sz op rw bg lo cd wd rm rg rr pl lm nx av sp le la) (fun uu t => ∃ zz, ex_M_round k h0 pP pO pB pS pK th sz op rw bg lo cd wd rm rg rr pl lm nx av sp le la zz uu ∧ GP D A (wo_M_round k h0 pP pO pB pS pK th sz op rw bg lo cd wd rm rg rr pl lm nx av sp le la zz uu) t) A
set_option maxHeartbeats 1000000 in
set_option maxRecDepth 100000 in
theorem c_M_round (l : Launch) (hl9 : l.stackTraces = false) (D : va_G) (k : gK) (h0 : Nat) (zsz : Nat) (pP : Nat) (pO : Nat) (pB : Nat) (pS : Nat) (pK : Nat) (th : Int32) (sz : Int32) (op : Int32) (rw : Int32) (bg : Int32) (lo : Int32) (cd : Int32) (wd : Int32) (rm : Int32) (rg : Int32) (rr : Int32) (pl : Int32) (lm : Int32) (nx : Int32) (av : Int64) (sp : Int32) (le : Int32) (la : Int32) : Met l y_Mdl_round (.code y_Mdl_round b_Mdl_round 3 none :: AW) ({ frames := 0, cells := 0, slots := 0, locals := 0 }) (va_Pc [.ref h0] (GG D k [(h0, .inr (9, [.ref pP, .ref pO, .int th, .int sz, .ref pB, .ref pS, .ref pK, .int op, .int rw, .int bg, .int lo, .int cd, .int wd, .int rm, .int rg, .int rr, .int pl, .int lm, .int nx, .long av, .int sp, .int le, .int la]))] zsz)) (qc_M_round D k h0 pP pO pB pS pK th sz op rw bg lo cd wd rm rg rr pl lm nx av sp le la (va_A [(h0, .inr (9, [.ref pP, .ref pO, .int th, .int sz, .ref pB, .ref pS, .ref pK, .int op, .int rw, .int bg, .int lo, .int cd, .int wd, .int rm, .int rg, .int rr, .int pl, .int lm, .int nx, .long av, .int sp, .int le, .int la]))] zsz)) 0 0 (va_A [(h0, .inr (9, [.ref pP, .ref pO, .int th, .int sz, .ref pB, .ref pS, .ref pK, .int op, .int rw, .int bg, .int lo, .int cd, .int wd, .int rm, .int rg, .int rr, .int pl, .int lm, .int nx, .long av, .int sp, .int le, .int la]))] zsz) := by
  refine kMet (ws := [(h0, .inr (9, [.ref pP, .ref pO, .int th, .int sz, .ref pB, .ref pS, .ref pK, .int op, .int rw, .int bg, .int lo, .int cd, .int wd, .int rm, .int rg, .int rr, .int pl, .int lm, .int nx, .long av, .int sp, .int le, .int la]))]) (Qc := qc_M_round D k h0 pP pO pB pS pK th sz op rw bg lo cd wd rm rg rr pl lm nx av sp le la) (by decide) (Nat.le_of_ble_eq_true rfl) (fun p e s m below meth c ls A H Cc hP hD hA hS hl => ?_)
  obtain ⟨hx, hb, hml, hr, hlk, hown, hts, hK, hE, hin⟩ := Cc
  have hl : lv_has ls 3 [(0, .ref h0)] := hl
  refine lv_aload_n hx hb d_Mdl_round_0 rfl (lv_at hl 0 rfl) ?_
  refine va_get (D := D) (ci := 9) (v := .int sp) (C := R_Mdl) (T := T_Mdl) (N := 23) hx hb hts inw_Mdl hown hK hP 0 rfl rfl 20 (by decide) (hts (.fieldLink R_Mdl 126 "LikelyBitsModel" "span" "I") mw_365) (fun _ h9 => h9) rfl d_Mdl_round_1 ?_
  refine lv_i2l (v := sp.toInt64) hx hb d_Mdl_round_4 rfl ?_
  refine lv_bipush (v := 16) hx hb d_Mdl_round_5 (by decide) ?_
  refine lv_lshl (v := sp.toInt64 <<< ((16 : Int32).toInt64 &&& 63)) hx hb d_Mdl_round_7 rfl ?_
  refine lv_lconst (v := 1) hx hb d_Mdl_round_8 (by decide) ?_
  refine lv_lsub hx hb d_Mdl_round_9 ?_
  refine lv_aload_n hx hb d_Mdl_round_10 rfl (lv_at hl 0 rfl) ?_
  refine va_get (D := D) (ci := 9) (v := .long av) (C := R_Mdl) (T := T_Mdl) (N := 23) hx hb hts inw_Mdl hown hK hP 0 rfl rfl 19 (by decide) (hts (.fieldLink R_Mdl 134 "LikelyBitsModel" "above" "J") mw_366) (fun _ h9 => h9) rfl d_Mdl_round_11 ?_
  refine lv_lsub hx hb d_Mdl_round_14 ?_
  refine lv_topl (fun x1 ex1 => ?_)
  refine lv_lstore_n (lv' := [(1, .long x1), (0, .ref h0)]) hx hb d_Mdl_round_15 rfl hl (by decide) rfl (fun ls hl => ?_)
  refine lv_lload_n hx hb d_Mdl_round_16 rfl (lv_at hl 0 rfl) ?_
  refine lv_bipush (v := 32) hx hb d_Mdl_round_17 (by decide) ?_
  refine lv_lshr (v := x1 >>> ((32 : Int32).toInt64 &&& 63)) hx hb d_Mdl_round_19 rfl ?_
  refine lv_lconst (v := 0) hx hb d_Mdl_round_20 (by decide) ?_
  refine W.lcmp hx hb d_Mdl_round_21 ?_
  refine lv_if_eq (tgt := 37) hx hb d_Mdl_round_22 (by decide) (fun c2 => ?_) (fun c2 => ?_)
  · exact krv (wo := wo_M_round k h0 pP pO pB pS pK th sz op rw bg lo cd wd rm rg rr pl lm nx av sp le la) hx hb hr hlk hP hD hS av () (by subst ex1; simp only [po_M_round]; rw [mrd, if_pos c2]) trivial [0] rfl (by decide) (Nat.le_of_ble_eq_true rfl) (Nat.le_of_ble_eq_true rfl) d_Mdl_round_37
  · refine lv_aload_n hx hb d_Mdl_round_25 rfl (lv_at hl 1 rfl) ?_
    refine lv_aload_n hx hb d_Mdl_round_26 rfl (lv_at hl 1 rfl) ?_
    refine va_get (D := D) (ci := 9) (v := .long av) (C := R_Mdl) (T := T_Mdl) (N := 23) hx hb hts inw_Mdl hown hK hP 0 rfl rfl 19 (by decide) (hts (.fieldLink R_Mdl 134 "LikelyBitsModel" "above" "J") mw_366) (fun _ h9 => h9) rfl d_Mdl_round_27 ?_
    refine lv_ldc2 (v := 4294967296) hx hb hown (hts (.constantLong R_Mdl 142 4294967296) mw_367) d_Mdl_round_30 ?_
    refine lv_ladd hx hb d_Mdl_round_33 ?_
    refine lv_topl (fun x3 ex3 => ?_)
    refine va_put (D := D) (ci := 9) (v := .long x3) (ty := .long) (C := R_Mdl) (T := T_Mdl) (N := 23) hx hb hts inw_Mdl ty_Mdl tyok_Mdl nm_Mdl hown hK hP hD hS 0 rfl rfl 19 (by decide) (hts (.fieldLink R_Mdl 134 "LikelyBitsModel" "above" "J") mw_366) (fun _ h9 => h9) rfl (by decide +kernel) rfl rfl (Nat.le_of_ble_eq_true rfl) d_Mdl_round_34 (fun H locs hP hD hS => ?_)
    have hP : va_P D vwCl [(h0, .inr (9, [.ref pP, .ref pO, .int th, .int sz, .ref pB, .ref pS, .ref pK, .int op, .int rw, .int bg, .int lo, .int cd, .int wd, .int rm, .int rg, .int rr, .int pl, .int lm, .int nx, .long x3, .int sp, .int le, .int la]))] H := hP
    have hD : va_D A [(h0, .inr (9, [.ref pP, .ref pO, .int th, .int sz, .ref pB, .ref pS, .ref pK, .int op, .int rw, .int bg, .int lo, .int cd, .int wd, .int rm, .int rg, .int rr, .int pl, .int lm, .int nx, .long x3, .int sp, .int le, .int la]))] := hD
    exact krv (wo := wo_M_round k h0 pP pO pB pS pK th sz op rw bg lo cd wd rm rg rr pl lm nx av sp le la) hx hb hr hlk hP hD hS x3 () (by subst ex3; subst ex1; simp only [po_M_round]; rw [mrd, if_neg c2]) trivial [0] rfl (by decide) (Nat.le_of_ble_eq_true rfl) (Nat.le_of_ble_eq_true rfl) d_Mdl_round_37

def wo_M_readRaw (k : gK) (h0 pB : Nat) (pP : Nat) (pO : Nat) (pS : Nat) (pK : Nat) (th : Int32) (sz : Int32) (op : Int32) (rw : Int32) (bg : Int32) (lo : Int32) (cd : Int32) (wd : Int32) (rm : Int32) (rg : Int32) (rr : Int32) (pl : Int32) (lm : Int32) (nx : Int32) (av : Int64) (sp : Int32) (le : Int32) (la : Int32) (B : Nat → Int32) (L : List Int32) (zz : Unit) (uu : Int32 × Int32 × Int32) : va_W := match zz, uu with
  | _, (le2, la2, nx2) => [(h0, .inr (9, [.ref pP, .ref pO, .int th, .int sz, .ref pB, .ref pS, .ref pK, .int op, .int rw, .int bg, .int lo, .int cd, .int wd, .int rm, .int rg, .int rr, .int pl, .int lm, .int nx2, .long av, .int sp, .int le2, .int la2])), (pB, .inl (k.1, 65536, .inl B))]
def ex_M_readRaw (k : gK) (h0 pB : Nat) (pP : Nat) (pO : Nat) (pS : Nat) (pK : Nat) (th : Int32) (sz : Int32) (op : Int32) (rw : Int32) (bg : Int32) (lo : Int32) (cd : Int32) (wd : Int32) (rm : Int32) (rg : Int32) (rr : Int32) (pl : Int32) (lm : Int32) (nx : Int32) (av : Int64) (sp : Int32) (le : Int32) (la : Int32) (B : Nat → Int32) (L : List Int32) (zz : Unit) (uu : Int32 × Int32 × Int32) : Prop := match zz, uu with
  | _, (le2, la2, nx2) => True
def po_M_readRaw (k : gK) (h0 pB : Nat) (pP : Nat) (pO : Nat) (pS : Nat) (pK : Nat) (th : Int32) (sz : Int32) (op : Int32) (rw : Int32) (bg : Int32) (lo : Int32) (cd : Int32) (wd : Int32) (rm : Int32) (rg : Int32) (rr : Int32) (pl : Int32) (lm : Int32) (nx : Int32) (av : Int64) (sp : Int32) (le : Int32) (la : Int32) (B : Nat → Int32) (L : List Int32) (r : Int32) (uu : Int32 × Int32 × Int32) : Prop := match uu with
  | (le2, la2, nx2) => r = (mrr L pl lm nx la le).1 ∧ le2 = (mrr L pl lm nx la le).2.1 ∧ la2 = (mrr L pl lm nx la le).2.2.1 ∧ nx2 = (mrr L pl lm nx la le).2.2.2
def qc_M_readRaw (D : va_G) (k : gK) (h0 pB : Nat) (pP : Nat) (pO : Nat) (pS : Nat) (pK : Nat) (th : Int32) (sz : Int32) (op : Int32) (rw : Int32) (bg : Int32) (lo : Int32) (cd : Int32) (wd : Int32) (rm : Int32) (rg : Int32) (rr : Int32) (pl : Int32) (lm : Int32) (nx : Int32) (av : Int64) (sp : Int32) (le : Int32) (la : Int32) (B : Nat → Int32) (L : List Int32) (A : Nat → Prop) : Array Value → State → Outcome → State → Prop := va_Qi (po_M_readRaw k h0 pB pP pO pS pK th sz op rw bg lo cd wd rm rg rr pl lm nx av sp le la B L) (fun uu t => ∃ zz, ex_M_readRaw k h0 pB pP pO pS pK th sz op rw bg lo cd wd rm rg rr pl lm nx av sp le la B L zz uu ∧ GP D A (wo_M_readRaw k h0 pB pP pO pS pK th sz op rw bg lo cd wd rm rg rr pl lm nx av sp le la B L zz uu) t) A
set_option maxHeartbeats 1000000 in
set_option maxRecDepth 100000 in
theorem c_M_readRaw (l : Launch) (hl9 : l.stackTraces = false) (D : va_G) (k : gK) (h0 pB : Nat) (zsz : Nat) (pP : Nat) (pO : Nat) (pS : Nat) (pK : Nat) (th : Int32) (sz : Int32) (op : Int32) (rw : Int32) (bg : Int32) (lo : Int32) (cd : Int32) (wd : Int32) (rm : Int32) (rg : Int32) (rr : Int32) (pl : Int32) (lm : Int32) (nx : Int32) (av : Int64) (sp : Int32) (le : Int32) (la : Int32) (B : Nat → Int32) (L : List Int32) (hM : row_ok 65536 B sz L) (hrd : rdok pl lm L) (hnx : ¬ nx < 0) : Met l y_Mdl_readRaw (.code y_Mdl_readRaw b_Mdl_readRaw 1 (some .int) :: AW) ({ frames := 1, cells := 0, slots := 0, locals := 21 }) (va_Pc [.ref h0] (GG D k [(h0, .inr (9, [.ref pP, .ref pO, .int th, .int sz, .ref pB, .ref pS, .ref pK, .int op, .int rw, .int bg, .int lo, .int cd, .int wd, .int rm, .int rg, .int rr, .int pl, .int lm, .int nx, .long av, .int sp, .int le, .int la])), (pB, .inl (k.1, 65536, .inl B))] zsz)) (qc_M_readRaw D k h0 pB pP pO pS pK th sz op rw bg lo cd wd rm rg rr pl lm nx av sp le la B L (va_A [(h0, .inr (9, [.ref pP, .ref pO, .int th, .int sz, .ref pB, .ref pS, .ref pK, .int op, .int rw, .int bg, .int lo, .int cd, .int wd, .int rm, .int rg, .int rr, .int pl, .int lm, .int nx, .long av, .int sp, .int le, .int la])), (pB, .inl (k.1, 65536, .inl B))] zsz)) 0 0 (va_A [(h0, .inr (9, [.ref pP, .ref pO, .int th, .int sz, .ref pB, .ref pS, .ref pK, .int op, .int rw, .int bg, .int lo, .int cd, .int wd, .int rm, .int rg, .int rr, .int pl, .int lm, .int nx, .long av, .int sp, .int le, .int la])), (pB, .inl (k.1, 65536, .inl B))] zsz) := by
  refine kMet (ws := [(h0, .inr (9, [.ref pP, .ref pO, .int th, .int sz, .ref pB, .ref pS, .ref pK, .int op, .int rw, .int bg, .int lo, .int cd, .int wd, .int rm, .int rg, .int rr, .int pl, .int lm, .int nx, .long av, .int sp, .int le, .int la])), (pB, .inl (k.1, 65536, .inl B))]) (Qc := qc_M_readRaw D k h0 pB pP pO pS pK th sz op rw bg lo cd wd rm rg rr pl lm nx av sp le la B L) (by decide) (Nat.le_of_ble_eq_true rfl) (fun p e s m below meth c ls A H Cc hP hD hA hS hl => ?_)
  obtain ⟨hx, hb, hml, hr, hlk, hown, hts, hK, hE, hin⟩ := Cc
  have hl : lv_has ls 1 [(0, .ref h0)] := hl
  refine lv_aload_n hx hb d_Mdl_readRaw_0 rfl (lv_at hl 0 rfl) ?_
  refine va_get (D := D) (ci := 9) (v := .int le) (C := R_Mdl) (T := T_Mdl) (N := 23) hx hb hts inw_Mdl hown hK hP 0 rfl rfl 21 (by decide) (hts (.fieldLink R_Mdl 120 "LikelyBitsModel" "left" "I") mw_357) (fun _ h9 => h9) rfl d_Mdl_readRaw_1 ?_
  refine lv_if_ne (tgt := 57) hx hb d_Mdl_readRaw_4 (by decide) (fun c1 => ?_) (fun c1 => ?_)
  · refine lv_aload_n hx hb d_Mdl_readRaw_57 rfl (lv_at hl 0 rfl) ?_
    refine lv_dup hx hb d_Mdl_readRaw_58 rfl ?_
    refine va_get (D := D) (ci := 9) (v := .int le) (C := R_Mdl) (T := T_Mdl) (N := 23) hx hb hts inw_Mdl hown hK hP 0 rfl rfl 21 (by decide) (hts (.fieldLink R_Mdl 120 "LikelyBitsModel" "left" "I") mw_357) (fun _ h9 => h9) rfl d_Mdl_readRaw_59 ?_
    refine lv_iconst (v := 1) hx hb d_Mdl_readRaw_62 (by decide) ?_
    refine lv_isub hx hb d_Mdl_readRaw_63 ?_
    refine lv_topi (fun x2 ex2 => ?_)
    refine va_put (D := D) (ci := 9) (v := .int x2) (ty := .int) (C := R_Mdl) (T := T_Mdl) (N := 23) hx hb hts inw_Mdl ty_Mdl tyok_Mdl nm_Mdl hown hK hP hD hS 0 rfl rfl 21 (by decide) (hts (.fieldLink R_Mdl 120 "LikelyBitsModel" "left" "I") mw_357) (fun _ h9 => h9) rfl (by decide +kernel) rfl rfl (Nat.le_of_ble_eq_true rfl) d_Mdl_readRaw_64 (fun H locs hP hD hS => ?_)
    have hP : va_P D vwCl [(h0, .inr (9, [.ref pP, .ref pO, .int th, .int sz, .ref pB, .ref pS, .ref pK, .int op, .int rw, .int bg, .int lo, .int cd, .int wd, .int rm, .int rg, .int rr, .int pl, .int lm, .int nx, .long av, .int sp, .int x2, .int la])), (pB, .inl (k.1, 65536, .inl B))] H := hP
    have hD : va_D A [(h0, .inr (9, [.ref pP, .ref pO, .int th, .int sz, .ref pB, .ref pS, .ref pK, .int op, .int rw, .int bg, .int lo, .int cd, .int wd, .int rm, .int rg, .int rr, .int pl, .int lm, .int nx, .long av, .int sp, .int x2, .int la])), (pB, .inl (k.1, 65536, .inl B))] := hD
    refine lv_aload_n hx hb d_Mdl_readRaw_67 rfl (lv_at hl 0 rfl) ?_
    refine va_get (D := D) (ci := 9) (v := .int la) (C := R_Mdl) (T := T_Mdl) (N := 23) hx hb hts inw_Mdl hown hK hP 0 rfl rfl 22 (by decide) (hts (.fieldLink R_Mdl 123 "LikelyBitsModel" "last" "I") mw_358) (fun _ h9 => h9) rfl d_Mdl_readRaw_68 ?_
    refine lv_aload_n hx hb d_Mdl_readRaw_71 rfl (lv_at hl 0 rfl) ?_
    refine va_get (D := D) (ci := 9) (v := .int x2) (C := R_Mdl) (T := T_Mdl) (N := 23) hx hb hts inw_Mdl hown hK hP 0 rfl rfl 21 (by decide) (hts (.fieldLink R_Mdl 120 "LikelyBitsModel" "left" "I") mw_357) (fun _ h9 => h9) rfl d_Mdl_readRaw_72 ?_
    refine lv_ishr hx hb d_Mdl_readRaw_75 ?_
    refine lv_iconst (v := 1) hx hb d_Mdl_readRaw_76 (by decide) ?_
    refine lv_iand hx hb d_Mdl_readRaw_77 ?_
    exact kri (wo := wo_M_readRaw k h0 pB pP pO pS pK th sz op rw bg lo cd wd rm rg rr pl lm nx av sp le la B L) hx hb hr hlk hP hD hS (x2, la, nx) () (by subst ex2; simp [po_M_readRaw, mrr, mr4, c1]) trivial [0, 1] rfl (by decide) (Nat.le_of_ble_eq_true rfl) (Nat.le_of_ble_eq_true rfl) d_Mdl_readRaw_78
  · refine lv_aload_n hx hb d_Mdl_readRaw_7 rfl (lv_at hl 0 rfl) ?_
    refine lv_aload_n hx hb d_Mdl_readRaw_8 rfl (lv_at hl 0 rfl) ?_
    refine va_get (D := D) (ci := 9) (v := .int nx) (C := R_Mdl) (T := T_Mdl) (N := 23) hx hb hts inw_Mdl hown hK hP 0 rfl rfl 18 (by decide) (hts (.fieldLink R_Mdl 117 "LikelyBitsModel" "next" "I") mw_359) (fun _ h9 => h9) rfl d_Mdl_readRaw_9 ?_
    refine lv_if_le (tgt := 30) hx hb d_Mdl_readRaw_12 (by decide) (fun c3 => ?_) (fun c3 => ?_)
    · refine lv_bipush (v := 8) hx hb d_Mdl_readRaw_30 (by decide) ?_
      refine va_put (D := D) (ci := 9) (v := .int 8) (ty := .int) (C := R_Mdl) (T := T_Mdl) (N := 23) hx hb hts inw_Mdl ty_Mdl tyok_Mdl nm_Mdl hown hK hP hD hS 0 rfl rfl 21 (by decide) (hts (.fieldLink R_Mdl 120 "LikelyBitsModel" "left" "I") mw_357) (fun _ h9 => h9) rfl (by decide +kernel) rfl rfl (Nat.le_of_ble_eq_true rfl) d_Mdl_readRaw_32 (fun H locs hP hD hS => ?_)
      have hP : va_P D vwCl [(h0, .inr (9, [.ref pP, .ref pO, .int th, .int sz, .ref pB, .ref pS, .ref pK, .int op, .int rw, .int bg, .int lo, .int cd, .int wd, .int rm, .int rg, .int rr, .int pl, .int lm, .int nx, .long av, .int sp, .int 8, .int la])), (pB, .inl (k.1, 65536, .inl B))] H := hP
      have hD : va_D A [(h0, .inr (9, [.ref pP, .ref pO, .int th, .int sz, .ref pB, .ref pS, .ref pK, .int op, .int rw, .int bg, .int lo, .int cd, .int wd, .int rm, .int rg, .int rr, .int pl, .int lm, .int nx, .long av, .int sp, .int 8, .int la])), (pB, .inl (k.1, 65536, .inl B))] := hD
      refine lv_aload_n hx hb d_Mdl_readRaw_35 rfl (lv_at hl 0 rfl) ?_
      refine lv_aload_n hx hb d_Mdl_readRaw_36 rfl (lv_at hl 0 rfl) ?_
      refine lv_aload_n hx hb d_Mdl_readRaw_37 rfl (lv_at hl 0 rfl) ?_
      refine va_get (D := D) (ci := 9) (v := .int nx) (C := R_Mdl) (T := T_Mdl) (N := 23) hx hb hts inw_Mdl hown hK hP 0 rfl rfl 18 (by decide) (hts (.fieldLink R_Mdl 117 "LikelyBitsModel" "next" "I") mw_359) (fun _ h9 => h9) rfl d_Mdl_readRaw_38 ?_
      refine kqi (va_runV (As := [.int nx]) (rest := [.ref h0]) ⟨hx, hb, hml, hown, hts⟩ (c_M_byteAt l hl9 D k h0 pB pP pO pS pK th sz op rw bg lo cd wd rm rg rr pl lm nx av sp 8 la B L nx (by assumption) (by assumption) (by assumption)) (cwV 1 hts (gV mw_360 mw_361 mw_362 mw_331 mw_363) rfl rfl rfl (by decide +kernel) ⟨(Nat.le_of_ble_eq_true rfl), (Nat.le_of_ble_eq_true rfl)⟩) (kRecv (q := (R_Mdl, T_Mdl, 23)) (q0 := 0) (ci := 9) hK hP rfl rfl (kPreR (wc := [(h0, .inr (9, [.ref pP, .ref pO, .int th, .int sz, .ref pB, .ref pS, .ref pK, .int op, .int rw, .int bg, .int lo, .int cd, .int wd, .int rm, .int rg, .int rr, .int pl, .int lm, .int nx, .long av, .int sp, .int 8, .int la])), (pB, .inl (k.1, 65536, .inl B))]) hE hK hP hS [0, 1] rfl)) rfl rfl hl.1 rfl (lv_room (Nat.le_of_ble_eq_true rfl)) d_Mdl_readRaw_41 ⟨(Nat.le_of_ble_eq_true rfl), (Nat.le_of_ble_eq_true rfl)⟩) hP hS (fun r4 H locs hw hP hS => ?_)
      replace hw := hw.symm
      subst hw
      refine lv_topi (fun x5 ex5 => ?_)
      refine va_put (D := D) (ci := 9) (v := .int x5) (ty := .int) (C := R_Mdl) (T := T_Mdl) (N := 23) hx hb hts inw_Mdl ty_Mdl tyok_Mdl nm_Mdl hown hK hP hD hS 0 rfl rfl 22 (by decide) (hts (.fieldLink R_Mdl 123 "LikelyBitsModel" "last" "I") mw_358) (fun _ h9 => h9) rfl (by decide +kernel) rfl rfl (Nat.le_of_ble_eq_true rfl) d_Mdl_readRaw_44 (fun H locs hP hD hS => ?_)
      have hP : va_P D vwCl [(h0, .inr (9, [.ref pP, .ref pO, .int th, .int sz, .ref pB, .ref pS, .ref pK, .int op, .int rw, .int bg, .int lo, .int cd, .int wd, .int rm, .int rg, .int rr, .int pl, .int lm, .int nx, .long av, .int sp, .int 8, .int x5])), (pB, .inl (k.1, 65536, .inl B))] H := hP
      have hD : va_D A [(h0, .inr (9, [.ref pP, .ref pO, .int th, .int sz, .ref pB, .ref pS, .ref pK, .int op, .int rw, .int bg, .int lo, .int cd, .int wd, .int rm, .int rg, .int rr, .int pl, .int lm, .int nx, .long av, .int sp, .int 8, .int x5])), (pB, .inl (k.1, 65536, .inl B))] := hD
      refine lv_aload_n hx hb d_Mdl_readRaw_47 rfl (lv_at hl 0 rfl) ?_
      refine lv_dup hx hb d_Mdl_readRaw_48 rfl ?_
      refine va_get (D := D) (ci := 9) (v := .int nx) (C := R_Mdl) (T := T_Mdl) (N := 23) hx hb hts inw_Mdl hown hK hP 0 rfl rfl 18 (by decide) (hts (.fieldLink R_Mdl 117 "LikelyBitsModel" "next" "I") mw_359) (fun _ h9 => h9) rfl d_Mdl_readRaw_49 ?_
      refine lv_iconst (v := 1) hx hb d_Mdl_readRaw_52 (by decide) ?_
      refine lv_iadd hx hb d_Mdl_readRaw_53 ?_
      refine lv_topi (fun x6 ex6 => ?_)
      refine va_put (D := D) (ci := 9) (v := .int x6) (ty := .int) (C := R_Mdl) (T := T_Mdl) (N := 23) hx hb hts inw_Mdl ty_Mdl tyok_Mdl nm_Mdl hown hK hP hD hS 0 rfl rfl 18 (by decide) (hts (.fieldLink R_Mdl 117 "LikelyBitsModel" "next" "I") mw_359) (fun _ h9 => h9) rfl (by decide +kernel) rfl rfl (Nat.le_of_ble_eq_true rfl) d_Mdl_readRaw_54 (fun H locs hP hD hS => ?_)
      have hP : va_P D vwCl [(h0, .inr (9, [.ref pP, .ref pO, .int th, .int sz, .ref pB, .ref pS, .ref pK, .int op, .int rw, .int bg, .int lo, .int cd, .int wd, .int rm, .int rg, .int rr, .int pl, .int lm, .int x6, .long av, .int sp, .int 8, .int x5])), (pB, .inl (k.1, 65536, .inl B))] H := hP
      have hD : va_D A [(h0, .inr (9, [.ref pP, .ref pO, .int th, .int sz, .ref pB, .ref pS, .ref pK, .int op, .int rw, .int bg, .int lo, .int cd, .int wd, .int rm, .int rg, .int rr, .int pl, .int lm, .int x6, .long av, .int sp, .int 8, .int x5])), (pB, .inl (k.1, 65536, .inl B))] := hD
      refine lv_aload_n hx hb d_Mdl_readRaw_57 rfl (lv_at hl 0 rfl) ?_
      refine lv_dup hx hb d_Mdl_readRaw_58 rfl ?_
      refine va_get (D := D) (ci := 9) (v := .int 8) (C := R_Mdl) (T := T_Mdl) (N := 23) hx hb hts inw_Mdl hown hK hP 0 rfl rfl 21 (by decide) (hts (.fieldLink R_Mdl 120 "LikelyBitsModel" "left" "I") mw_357) (fun _ h9 => h9) rfl d_Mdl_readRaw_59 ?_
      refine lv_iconst (v := 1) hx hb d_Mdl_readRaw_62 (by decide) ?_
      refine lv_isub hx hb d_Mdl_readRaw_63 ?_
      refine lv_topi (fun x7 ex7 => ?_)
      refine va_put (D := D) (ci := 9) (v := .int x7) (ty := .int) (C := R_Mdl) (T := T_Mdl) (N := 23) hx hb hts inw_Mdl ty_Mdl tyok_Mdl nm_Mdl hown hK hP hD hS 0 rfl rfl 21 (by decide) (hts (.fieldLink R_Mdl 120 "LikelyBitsModel" "left" "I") mw_357) (fun _ h9 => h9) rfl (by decide +kernel) rfl rfl (Nat.le_of_ble_eq_true rfl) d_Mdl_readRaw_64 (fun H locs hP hD hS => ?_)
      have hP : va_P D vwCl [(h0, .inr (9, [.ref pP, .ref pO, .int th, .int sz, .ref pB, .ref pS, .ref pK, .int op, .int rw, .int bg, .int lo, .int cd, .int wd, .int rm, .int rg, .int rr, .int pl, .int lm, .int x6, .long av, .int sp, .int x7, .int x5])), (pB, .inl (k.1, 65536, .inl B))] H := hP
      have hD : va_D A [(h0, .inr (9, [.ref pP, .ref pO, .int th, .int sz, .ref pB, .ref pS, .ref pK, .int op, .int rw, .int bg, .int lo, .int cd, .int wd, .int rm, .int rg, .int rr, .int pl, .int lm, .int x6, .long av, .int sp, .int x7, .int x5])), (pB, .inl (k.1, 65536, .inl B))] := hD
      refine lv_aload_n hx hb d_Mdl_readRaw_67 rfl (lv_at hl 0 rfl) ?_
      refine va_get (D := D) (ci := 9) (v := .int x5) (C := R_Mdl) (T := T_Mdl) (N := 23) hx hb hts inw_Mdl hown hK hP 0 rfl rfl 22 (by decide) (hts (.fieldLink R_Mdl 123 "LikelyBitsModel" "last" "I") mw_358) (fun _ h9 => h9) rfl d_Mdl_readRaw_68 ?_
      refine lv_aload_n hx hb d_Mdl_readRaw_71 rfl (lv_at hl 0 rfl) ?_
      refine va_get (D := D) (ci := 9) (v := .int x7) (C := R_Mdl) (T := T_Mdl) (N := 23) hx hb hts inw_Mdl hown hK hP 0 rfl rfl 21 (by decide) (hts (.fieldLink R_Mdl 120 "LikelyBitsModel" "left" "I") mw_357) (fun _ h9 => h9) rfl d_Mdl_readRaw_72 ?_
      refine lv_ishr hx hb d_Mdl_readRaw_75 ?_
      refine lv_iconst (v := 1) hx hb d_Mdl_readRaw_76 (by decide) ?_
      refine lv_iand hx hb d_Mdl_readRaw_77 ?_
      exact kri (wo := wo_M_readRaw k h0 pB pP pO pS pK th sz op rw bg lo cd wd rm rg rr pl lm nx av sp le la B L) hx hb hr hlk hP hD hS (x7, x5, x6) () (by subst ex7; subst ex6; subst ex5; simp [po_M_readRaw, mrr, mr4, c1, c3]) trivial [0, 1] rfl (by decide) (Nat.le_of_ble_eq_true rfl) (Nat.le_of_ble_eq_true rfl) d_Mdl_readRaw_78
    · refine lv_aload_n hx hb d_Mdl_readRaw_15 rfl (lv_at hl 0 rfl) ?_
      refine va_get (D := D) (ci := 9) (v := .int la) (C := R_Mdl) (T := T_Mdl) (N := 23) hx hb hts inw_Mdl hown hK hP 0 rfl rfl 22 (by decide) (hts (.fieldLink R_Mdl 123 "LikelyBitsModel" "last" "I") mw_358) (fun _ h9 => h9) rfl d_Mdl_readRaw_16 ?_
      refine lv_sipush (v := 255) hx hb d_Mdl_readRaw_19 (by decide) ?_
      refine lv_icmp_ne (tgt := 30) hx hb d_Mdl_readRaw_22 (by decide) (fun c8 => ?_) (fun c8 => ?_)
      · refine lv_bipush (v := 8) hx hb d_Mdl_readRaw_30 (by decide) ?_
        refine va_put (D := D) (ci := 9) (v := .int 8) (ty := .int) (C := R_Mdl) (T := T_Mdl) (N := 23) hx hb hts inw_Mdl ty_Mdl tyok_Mdl nm_Mdl hown hK hP hD hS 0 rfl rfl 21 (by decide) (hts (.fieldLink R_Mdl 120 "LikelyBitsModel" "left" "I") mw_357) (fun _ h9 => h9) rfl (by decide +kernel) rfl rfl (Nat.le_of_ble_eq_true rfl) d_Mdl_readRaw_32 (fun H locs hP hD hS => ?_)
        have hP : va_P D vwCl [(h0, .inr (9, [.ref pP, .ref pO, .int th, .int sz, .ref pB, .ref pS, .ref pK, .int op, .int rw, .int bg, .int lo, .int cd, .int wd, .int rm, .int rg, .int rr, .int pl, .int lm, .int nx, .long av, .int sp, .int 8, .int la])), (pB, .inl (k.1, 65536, .inl B))] H := hP
        have hD : va_D A [(h0, .inr (9, [.ref pP, .ref pO, .int th, .int sz, .ref pB, .ref pS, .ref pK, .int op, .int rw, .int bg, .int lo, .int cd, .int wd, .int rm, .int rg, .int rr, .int pl, .int lm, .int nx, .long av, .int sp, .int 8, .int la])), (pB, .inl (k.1, 65536, .inl B))] := hD
        refine lv_aload_n hx hb d_Mdl_readRaw_35 rfl (lv_at hl 0 rfl) ?_
        refine lv_aload_n hx hb d_Mdl_readRaw_36 rfl (lv_at hl 0 rfl) ?_
        refine lv_aload_n hx hb d_Mdl_readRaw_37 rfl (lv_at hl 0 rfl) ?_
        refine va_get (D := D) (ci := 9) (v := .int nx) (C := R_Mdl) (T := T_Mdl) (N := 23) hx hb hts inw_Mdl hown hK hP 0 rfl rfl 18 (by decide) (hts (.fieldLink R_Mdl 117 "LikelyBitsModel" "next" "I") mw_359) (fun _ h9 => h9) rfl d_Mdl_readRaw_38 ?_
        refine kqi (va_runV (As := [.int nx]) (rest := [.ref h0]) ⟨hx, hb, hml, hown, hts⟩ (c_M_byteAt l hl9 D k h0 pB pP pO pS pK th sz op rw bg lo cd wd rm rg rr pl lm nx av sp 8 la B L nx (by assumption) (by assumption) (by assumption)) (cwV 1 hts (gV mw_360 mw_361 mw_362 mw_331 mw_363) rfl rfl rfl (by decide +kernel) ⟨(Nat.le_of_ble_eq_true rfl), (Nat.le_of_ble_eq_true rfl)⟩) (kRecv (q := (R_Mdl, T_Mdl, 23)) (q0 := 0) (ci := 9) hK hP rfl rfl (kPreR (wc := [(h0, .inr (9, [.ref pP, .ref pO, .int th, .int sz, .ref pB, .ref pS, .ref pK, .int op, .int rw, .int bg, .int lo, .int cd, .int wd, .int rm, .int rg, .int rr, .int pl, .int lm, .int nx, .long av, .int sp, .int 8, .int la])), (pB, .inl (k.1, 65536, .inl B))]) hE hK hP hS [0, 1] rfl)) rfl rfl hl.1 rfl (lv_room (Nat.le_of_ble_eq_true rfl)) d_Mdl_readRaw_41 ⟨(Nat.le_of_ble_eq_true rfl), (Nat.le_of_ble_eq_true rfl)⟩) hP hS (fun r9 H locs hw hP hS => ?_)
        replace hw := hw.symm
        subst hw
        refine lv_topi (fun x10 ex10 => ?_)
        refine va_put (D := D) (ci := 9) (v := .int x10) (ty := .int) (C := R_Mdl) (T := T_Mdl) (N := 23) hx hb hts inw_Mdl ty_Mdl tyok_Mdl nm_Mdl hown hK hP hD hS 0 rfl rfl 22 (by decide) (hts (.fieldLink R_Mdl 123 "LikelyBitsModel" "last" "I") mw_358) (fun _ h9 => h9) rfl (by decide +kernel) rfl rfl (Nat.le_of_ble_eq_true rfl) d_Mdl_readRaw_44 (fun H locs hP hD hS => ?_)
        have hP : va_P D vwCl [(h0, .inr (9, [.ref pP, .ref pO, .int th, .int sz, .ref pB, .ref pS, .ref pK, .int op, .int rw, .int bg, .int lo, .int cd, .int wd, .int rm, .int rg, .int rr, .int pl, .int lm, .int nx, .long av, .int sp, .int 8, .int x10])), (pB, .inl (k.1, 65536, .inl B))] H := hP
        have hD : va_D A [(h0, .inr (9, [.ref pP, .ref pO, .int th, .int sz, .ref pB, .ref pS, .ref pK, .int op, .int rw, .int bg, .int lo, .int cd, .int wd, .int rm, .int rg, .int rr, .int pl, .int lm, .int nx, .long av, .int sp, .int 8, .int x10])), (pB, .inl (k.1, 65536, .inl B))] := hD
        refine lv_aload_n hx hb d_Mdl_readRaw_47 rfl (lv_at hl 0 rfl) ?_
        refine lv_dup hx hb d_Mdl_readRaw_48 rfl ?_
        refine va_get (D := D) (ci := 9) (v := .int nx) (C := R_Mdl) (T := T_Mdl) (N := 23) hx hb hts inw_Mdl hown hK hP 0 rfl rfl 18 (by decide) (hts (.fieldLink R_Mdl 117 "LikelyBitsModel" "next" "I") mw_359) (fun _ h9 => h9) rfl d_Mdl_readRaw_49 ?_
        refine lv_iconst (v := 1) hx hb d_Mdl_readRaw_52 (by decide) ?_
        refine lv_iadd hx hb d_Mdl_readRaw_53 ?_
        refine lv_topi (fun x11 ex11 => ?_)
        refine va_put (D := D) (ci := 9) (v := .int x11) (ty := .int) (C := R_Mdl) (T := T_Mdl) (N := 23) hx hb hts inw_Mdl ty_Mdl tyok_Mdl nm_Mdl hown hK hP hD hS 0 rfl rfl 18 (by decide) (hts (.fieldLink R_Mdl 117 "LikelyBitsModel" "next" "I") mw_359) (fun _ h9 => h9) rfl (by decide +kernel) rfl rfl (Nat.le_of_ble_eq_true rfl) d_Mdl_readRaw_54 (fun H locs hP hD hS => ?_)
        have hP : va_P D vwCl [(h0, .inr (9, [.ref pP, .ref pO, .int th, .int sz, .ref pB, .ref pS, .ref pK, .int op, .int rw, .int bg, .int lo, .int cd, .int wd, .int rm, .int rg, .int rr, .int pl, .int lm, .int x11, .long av, .int sp, .int 8, .int x10])), (pB, .inl (k.1, 65536, .inl B))] H := hP
        have hD : va_D A [(h0, .inr (9, [.ref pP, .ref pO, .int th, .int sz, .ref pB, .ref pS, .ref pK, .int op, .int rw, .int bg, .int lo, .int cd, .int wd, .int rm, .int rg, .int rr, .int pl, .int lm, .int x11, .long av, .int sp, .int 8, .int x10])), (pB, .inl (k.1, 65536, .inl B))] := hD
        refine lv_aload_n hx hb d_Mdl_readRaw_57 rfl (lv_at hl 0 rfl) ?_
        refine lv_dup hx hb d_Mdl_readRaw_58 rfl ?_
        refine va_get (D := D) (ci := 9) (v := .int 8) (C := R_Mdl) (T := T_Mdl) (N := 23) hx hb hts inw_Mdl hown hK hP 0 rfl rfl 21 (by decide) (hts (.fieldLink R_Mdl 120 "LikelyBitsModel" "left" "I") mw_357) (fun _ h9 => h9) rfl d_Mdl_readRaw_59 ?_
        refine lv_iconst (v := 1) hx hb d_Mdl_readRaw_62 (by decide) ?_
        refine lv_isub hx hb d_Mdl_readRaw_63 ?_
        refine lv_topi (fun x12 ex12 => ?_)
        refine va_put (D := D) (ci := 9) (v := .int x12) (ty := .int) (C := R_Mdl) (T := T_Mdl) (N := 23) hx hb hts inw_Mdl ty_Mdl tyok_Mdl nm_Mdl hown hK hP hD hS 0 rfl rfl 21 (by decide) (hts (.fieldLink R_Mdl 120 "LikelyBitsModel" "left" "I") mw_357) (fun _ h9 => h9) rfl (by decide +kernel) rfl rfl (Nat.le_of_ble_eq_true rfl) d_Mdl_readRaw_64 (fun H locs hP hD hS => ?_)
        have hP : va_P D vwCl [(h0, .inr (9, [.ref pP, .ref pO, .int th, .int sz, .ref pB, .ref pS, .ref pK, .int op, .int rw, .int bg, .int lo, .int cd, .int wd, .int rm, .int rg, .int rr, .int pl, .int lm, .int x11, .long av, .int sp, .int x12, .int x10])), (pB, .inl (k.1, 65536, .inl B))] H := hP
        have hD : va_D A [(h0, .inr (9, [.ref pP, .ref pO, .int th, .int sz, .ref pB, .ref pS, .ref pK, .int op, .int rw, .int bg, .int lo, .int cd, .int wd, .int rm, .int rg, .int rr, .int pl, .int lm, .int x11, .long av, .int sp, .int x12, .int x10])), (pB, .inl (k.1, 65536, .inl B))] := hD
        refine lv_aload_n hx hb d_Mdl_readRaw_67 rfl (lv_at hl 0 rfl) ?_
        refine va_get (D := D) (ci := 9) (v := .int x10) (C := R_Mdl) (T := T_Mdl) (N := 23) hx hb hts inw_Mdl hown hK hP 0 rfl rfl 22 (by decide) (hts (.fieldLink R_Mdl 123 "LikelyBitsModel" "last" "I") mw_358) (fun _ h9 => h9) rfl d_Mdl_readRaw_68 ?_
        refine lv_aload_n hx hb d_Mdl_readRaw_71 rfl (lv_at hl 0 rfl) ?_
        refine va_get (D := D) (ci := 9) (v := .int x12) (C := R_Mdl) (T := T_Mdl) (N := 23) hx hb hts inw_Mdl hown hK hP 0 rfl rfl 21 (by decide) (hts (.fieldLink R_Mdl 120 "LikelyBitsModel" "left" "I") mw_357) (fun _ h9 => h9) rfl d_Mdl_readRaw_72 ?_
        refine lv_ishr hx hb d_Mdl_readRaw_75 ?_
        refine lv_iconst (v := 1) hx hb d_Mdl_readRaw_76 (by decide) ?_
        refine lv_iand hx hb d_Mdl_readRaw_77 ?_
        exact kri (wo := wo_M_readRaw k h0 pB pP pO pS pK th sz op rw bg lo cd wd rm rg rr pl lm nx av sp le la B L) hx hb hr hlk hP hD hS (x12, x10, x11) () (by subst ex12; subst ex11; subst ex10; simp [po_M_readRaw, mrr, mr4, c1, c3, c8]) trivial [0, 1] rfl (by decide) (Nat.le_of_ble_eq_true rfl) (Nat.le_of_ble_eq_true rfl) d_Mdl_readRaw_78
      · refine lv_bipush (v := 7) hx hb d_Mdl_readRaw_25 (by decide) ?_
        refine lv_goto (tgt := 32) hx hb d_Mdl_readRaw_27 (by decide) ?_
        refine va_put (D := D) (ci := 9) (v := .int 7) (ty := .int) (C := R_Mdl) (T := T_Mdl) (N := 23) hx hb hts inw_Mdl ty_Mdl tyok_Mdl nm_Mdl hown hK hP hD hS 0 rfl rfl 21 (by decide) (hts (.fieldLink R_Mdl 120 "LikelyBitsModel" "left" "I") mw_357) (fun _ h9 => h9) rfl (by decide +kernel) rfl rfl (Nat.le_of_ble_eq_true rfl) d_Mdl_readRaw_32 (fun H locs hP hD hS => ?_)
        have hP : va_P D vwCl [(h0, .inr (9, [.ref pP, .ref pO, .int th, .int sz, .ref pB, .ref pS, .ref pK, .int op, .int rw, .int bg, .int lo, .int cd, .int wd, .int rm, .int rg, .int rr, .int pl, .int lm, .int nx, .long av, .int sp, .int 7, .int la])), (pB, .inl (k.1, 65536, .inl B))] H := hP
        have hD : va_D A [(h0, .inr (9, [.ref pP, .ref pO, .int th, .int sz, .ref pB, .ref pS, .ref pK, .int op, .int rw, .int bg, .int lo, .int cd, .int wd, .int rm, .int rg, .int rr, .int pl, .int lm, .int nx, .long av, .int sp, .int 7, .int la])), (pB, .inl (k.1, 65536, .inl B))] := hD
        refine lv_aload_n hx hb d_Mdl_readRaw_35 rfl (lv_at hl 0 rfl) ?_
        refine lv_aload_n hx hb d_Mdl_readRaw_36 rfl (lv_at hl 0 rfl) ?_
        refine lv_aload_n hx hb d_Mdl_readRaw_37 rfl (lv_at hl 0 rfl) ?_
        refine va_get (D := D) (ci := 9) (v := .int nx) (C := R_Mdl) (T := T_Mdl) (N := 23) hx hb hts inw_Mdl hown hK hP 0 rfl rfl 18 (by decide) (hts (.fieldLink R_Mdl 117 "LikelyBitsModel" "next" "I") mw_359) (fun _ h9 => h9) rfl d_Mdl_readRaw_38 ?_
        refine kqi (va_runV (As := [.int nx]) (rest := [.ref h0]) ⟨hx, hb, hml, hown, hts⟩ (c_M_byteAt l hl9 D k h0 pB pP pO pS pK th sz op rw bg lo cd wd rm rg rr pl lm nx av sp 7 la B L nx (by assumption) (by assumption) (by assumption)) (cwV 1 hts (gV mw_360 mw_361 mw_362 mw_331 mw_363) rfl rfl rfl (by decide +kernel) ⟨(Nat.le_of_ble_eq_true rfl), (Nat.le_of_ble_eq_true rfl)⟩) (kRecv (q := (R_Mdl, T_Mdl, 23)) (q0 := 0) (ci := 9) hK hP rfl rfl (kPreR (wc := [(h0, .inr (9, [.ref pP, .ref pO, .int th, .int sz, .ref pB, .ref pS, .ref pK, .int op, .int rw, .int bg, .int lo, .int cd, .int wd, .int rm, .int rg, .int rr, .int pl, .int lm, .int nx, .long av, .int sp, .int 7, .int la])), (pB, .inl (k.1, 65536, .inl B))]) hE hK hP hS [0, 1] rfl)) rfl rfl hl.1 rfl (lv_room (Nat.le_of_ble_eq_true rfl)) d_Mdl_readRaw_41 ⟨(Nat.le_of_ble_eq_true rfl), (Nat.le_of_ble_eq_true rfl)⟩) hP hS (fun r13 H locs hw hP hS => ?_)
        replace hw := hw.symm
        subst hw
        refine lv_topi (fun x14 ex14 => ?_)
        refine va_put (D := D) (ci := 9) (v := .int x14) (ty := .int) (C := R_Mdl) (T := T_Mdl) (N := 23) hx hb hts inw_Mdl ty_Mdl tyok_Mdl nm_Mdl hown hK hP hD hS 0 rfl rfl 22 (by decide) (hts (.fieldLink R_Mdl 123 "LikelyBitsModel" "last" "I") mw_358) (fun _ h9 => h9) rfl (by decide +kernel) rfl rfl (Nat.le_of_ble_eq_true rfl) d_Mdl_readRaw_44 (fun H locs hP hD hS => ?_)
        have hP : va_P D vwCl [(h0, .inr (9, [.ref pP, .ref pO, .int th, .int sz, .ref pB, .ref pS, .ref pK, .int op, .int rw, .int bg, .int lo, .int cd, .int wd, .int rm, .int rg, .int rr, .int pl, .int lm, .int nx, .long av, .int sp, .int 7, .int x14])), (pB, .inl (k.1, 65536, .inl B))] H := hP
        have hD : va_D A [(h0, .inr (9, [.ref pP, .ref pO, .int th, .int sz, .ref pB, .ref pS, .ref pK, .int op, .int rw, .int bg, .int lo, .int cd, .int wd, .int rm, .int rg, .int rr, .int pl, .int lm, .int nx, .long av, .int sp, .int 7, .int x14])), (pB, .inl (k.1, 65536, .inl B))] := hD
        refine lv_aload_n hx hb d_Mdl_readRaw_47 rfl (lv_at hl 0 rfl) ?_
        refine lv_dup hx hb d_Mdl_readRaw_48 rfl ?_
        refine va_get (D := D) (ci := 9) (v := .int nx) (C := R_Mdl) (T := T_Mdl) (N := 23) hx hb hts inw_Mdl hown hK hP 0 rfl rfl 18 (by decide) (hts (.fieldLink R_Mdl 117 "LikelyBitsModel" "next" "I") mw_359) (fun _ h9 => h9) rfl d_Mdl_readRaw_49 ?_
        refine lv_iconst (v := 1) hx hb d_Mdl_readRaw_52 (by decide) ?_
        refine lv_iadd hx hb d_Mdl_readRaw_53 ?_
        refine lv_topi (fun x15 ex15 => ?_)
        refine va_put (D := D) (ci := 9) (v := .int x15) (ty := .int) (C := R_Mdl) (T := T_Mdl) (N := 23) hx hb hts inw_Mdl ty_Mdl tyok_Mdl nm_Mdl hown hK hP hD hS 0 rfl rfl 18 (by decide) (hts (.fieldLink R_Mdl 117 "LikelyBitsModel" "next" "I") mw_359) (fun _ h9 => h9) rfl (by decide +kernel) rfl rfl (Nat.le_of_ble_eq_true rfl) d_Mdl_readRaw_54 (fun H locs hP hD hS => ?_)
        have hP : va_P D vwCl [(h0, .inr (9, [.ref pP, .ref pO, .int th, .int sz, .ref pB, .ref pS, .ref pK, .int op, .int rw, .int bg, .int lo, .int cd, .int wd, .int rm, .int rg, .int rr, .int pl, .int lm, .int x15, .long av, .int sp, .int 7, .int x14])), (pB, .inl (k.1, 65536, .inl B))] H := hP
        have hD : va_D A [(h0, .inr (9, [.ref pP, .ref pO, .int th, .int sz, .ref pB, .ref pS, .ref pK, .int op, .int rw, .int bg, .int lo, .int cd, .int wd, .int rm, .int rg, .int rr, .int pl, .int lm, .int x15, .long av, .int sp, .int 7, .int x14])), (pB, .inl (k.1, 65536, .inl B))] := hD
        refine lv_aload_n hx hb d_Mdl_readRaw_57 rfl (lv_at hl 0 rfl) ?_
        refine lv_dup hx hb d_Mdl_readRaw_58 rfl ?_
        refine va_get (D := D) (ci := 9) (v := .int 7) (C := R_Mdl) (T := T_Mdl) (N := 23) hx hb hts inw_Mdl hown hK hP 0 rfl rfl 21 (by decide) (hts (.fieldLink R_Mdl 120 "LikelyBitsModel" "left" "I") mw_357) (fun _ h9 => h9) rfl d_Mdl_readRaw_59 ?_
        refine lv_iconst (v := 1) hx hb d_Mdl_readRaw_62 (by decide) ?_
        refine lv_isub hx hb d_Mdl_readRaw_63 ?_
        refine lv_topi (fun x16 ex16 => ?_)
        refine va_put (D := D) (ci := 9) (v := .int x16) (ty := .int) (C := R_Mdl) (T := T_Mdl) (N := 23) hx hb hts inw_Mdl ty_Mdl tyok_Mdl nm_Mdl hown hK hP hD hS 0 rfl rfl 21 (by decide) (hts (.fieldLink R_Mdl 120 "LikelyBitsModel" "left" "I") mw_357) (fun _ h9 => h9) rfl (by decide +kernel) rfl rfl (Nat.le_of_ble_eq_true rfl) d_Mdl_readRaw_64 (fun H locs hP hD hS => ?_)
        have hP : va_P D vwCl [(h0, .inr (9, [.ref pP, .ref pO, .int th, .int sz, .ref pB, .ref pS, .ref pK, .int op, .int rw, .int bg, .int lo, .int cd, .int wd, .int rm, .int rg, .int rr, .int pl, .int lm, .int x15, .long av, .int sp, .int x16, .int x14])), (pB, .inl (k.1, 65536, .inl B))] H := hP
        have hD : va_D A [(h0, .inr (9, [.ref pP, .ref pO, .int th, .int sz, .ref pB, .ref pS, .ref pK, .int op, .int rw, .int bg, .int lo, .int cd, .int wd, .int rm, .int rg, .int rr, .int pl, .int lm, .int x15, .long av, .int sp, .int x16, .int x14])), (pB, .inl (k.1, 65536, .inl B))] := hD
        refine lv_aload_n hx hb d_Mdl_readRaw_67 rfl (lv_at hl 0 rfl) ?_
        refine va_get (D := D) (ci := 9) (v := .int x14) (C := R_Mdl) (T := T_Mdl) (N := 23) hx hb hts inw_Mdl hown hK hP 0 rfl rfl 22 (by decide) (hts (.fieldLink R_Mdl 123 "LikelyBitsModel" "last" "I") mw_358) (fun _ h9 => h9) rfl d_Mdl_readRaw_68 ?_
        refine lv_aload_n hx hb d_Mdl_readRaw_71 rfl (lv_at hl 0 rfl) ?_
        refine va_get (D := D) (ci := 9) (v := .int x16) (C := R_Mdl) (T := T_Mdl) (N := 23) hx hb hts inw_Mdl hown hK hP 0 rfl rfl 21 (by decide) (hts (.fieldLink R_Mdl 120 "LikelyBitsModel" "left" "I") mw_357) (fun _ h9 => h9) rfl d_Mdl_readRaw_72 ?_
        refine lv_ishr hx hb d_Mdl_readRaw_75 ?_
        refine lv_iconst (v := 1) hx hb d_Mdl_readRaw_76 (by decide) ?_
        refine lv_iand hx hb d_Mdl_readRaw_77 ?_
        exact kri (wo := wo_M_readRaw k h0 pB pP pO pS pK th sz op rw bg lo cd wd rm rg rr pl lm nx av sp le la B L) hx hb hr hlk hP hD hS (x16, x14, x15) () (by subst ex16; subst ex15; subst ex14; simp [po_M_readRaw, mrr, mr4, c1, c3, c8]) trivial [0, 1] rfl (by decide) (Nat.le_of_ble_eq_true rfl) (Nat.le_of_ble_eq_true rfl) d_Mdl_readRaw_78

set_option maxRecDepth 20000 in
theorem mw_368 : (Cond.methodLink R_Mdl 40 y_Mdl_out) ∈ AW := inAW (List.mem_append_right _ (show _ ∈ tables_1_1 ++ (tables_1_2 ++ (tables_1_3 ++ tables_1_4)) from (List.mem_append_right _ (List.mem_append_right _ (List.mem_append_right _ (List.mem_of_getElem? (i := 15) rfl)))))) rfl
set_option maxRecDepth 20000 in
theorem mw_369 : (Cond.static y_Mdl_out) ∈ AW := inAW (List.mem_append_right _ (show _ ∈ tables_1_1 ++ (tables_1_2 ++ (tables_1_3 ++ tables_1_4)) from (List.mem_append_right _ (List.mem_append_right _ (List.mem_append_right _ (List.mem_of_getElem? (i := 16) rfl)))))) rfl
set_option maxRecDepth 20000 in
theorem mw_370 : (Cond.code y_Mdl_out b_Mdl_out 3 (some .boolean)) ∈ AW := inAW (List.mem_append_right _ (show _ ∈ tables_1_1 ++ (tables_1_2 ++ (tables_1_3 ++ tables_1_4)) from (List.mem_append_right _ (List.mem_append_right _ (List.mem_append_right _ (List.mem_of_getElem? (i := 17) rfl)))))) rfl
set_option maxRecDepth 20000 in
theorem mw_371 : (Cond.constant R_Mdl 16 65536) ∈ AW := inAW (List.mem_append_right _ (show _ ∈ tables_1_1 ++ (tables_1_2 ++ (tables_1_3 ++ tables_1_4)) from (List.mem_append_right _ (List.mem_append_right _ (List.mem_append_left _ (List.mem_of_getElem? (i := 172) rfl)))))) rfl
set_option maxRecDepth 20000 in
theorem mw_372 : (Cond.methodLink R_Mdl 44 y_Mdl_throwing) ∈ AW := inAW (List.mem_append_right _ (show _ ∈ tables_1_1 ++ (tables_1_2 ++ (tables_1_3 ++ tables_1_4)) from (List.mem_append_right _ (List.mem_append_right _ (List.mem_append_right _ (List.mem_of_getElem? (i := 18) rfl)))))) rfl
set_option maxRecDepth 20000 in
theorem mw_373 : (Cond.instanceMethod y_Mdl_throwing) ∈ AW := inAW (List.mem_append_right _ (show _ ∈ tables_1_1 ++ (tables_1_2 ++ (tables_1_3 ++ tables_1_4)) from (List.mem_append_right _ (List.mem_append_right _ (List.mem_append_right _ (List.mem_of_getElem? (i := 20) rfl)))))) rfl
set_option maxRecDepth 20000 in
theorem mw_374 : (Cond.selects R_Mdl y_Mdl_throwing y_Mdl_throwing) ∈ AW := inAW (List.mem_append_left _ (List.mem_of_getElem? (i := 10) rfl)) rfl
set_option maxRecDepth 20000 in
theorem mw_375 : (Cond.code y_Mdl_throwing b_Mdl_throwing 4 (some .boolean)) ∈ AW := inAW (List.mem_append_right _ (show _ ∈ tables_1_1 ++ (tables_1_2 ++ (tables_1_3 ++ tables_1_4)) from (List.mem_append_right _ (List.mem_append_right _ (List.mem_append_right _ (List.mem_of_getElem? (i := 21) rfl)))))) rfl
set_option maxRecDepth 20000 in
theorem mw_376 : (Cond.fieldLink R_Mdl 93 "LikelyBitsModel" "raw" "Z") ∈ AW := inAW (List.mem_append_right _ (show _ ∈ tables_1_1 ++ (tables_1_2 ++ (tables_1_3 ++ tables_1_4)) from (List.mem_append_right _ (List.mem_append_right _ (List.mem_append_left _ (List.mem_of_getElem? (i := 181) rfl)))))) rfl
set_option maxRecDepth 20000 in
theorem mw_377 : (Cond.constant R_Mdl 52 32768) ∈ AW := inAW (List.mem_append_right _ (show _ ∈ tables_1_1 ++ (tables_1_2 ++ (tables_1_3 ++ tables_1_4)) from (List.mem_append_right _ (List.mem_append_right _ (List.mem_append_right _ (List.mem_of_getElem? (i := 38) rfl)))))) rfl
set_option maxRecDepth 20000 in
theorem mw_378 : (Cond.fieldLink R_Mdl 79 "LikelyBitsModel" "wide" "I") ∈ AW := inAW (List.mem_append_right _ (show _ ∈ tables_1_1 ++ (tables_1_2 ++ (tables_1_3 ++ tables_1_4)) from (List.mem_append_right _ (List.mem_append_right _ (List.mem_append_left _ (List.mem_of_getElem? (i := 185) rfl)))))) rfl
set_option maxRecDepth 20000 in
theorem mw_379 : (Cond.fieldLink R_Mdl 114 "LikelyBitsModel" "rawRead" "Z") ∈ AW := inAW (List.mem_append_right _ (show _ ∈ tables_1_1 ++ (tables_1_2 ++ (tables_1_3 ++ tables_1_4)) from (List.mem_append_right _ (List.mem_append_right _ (List.mem_append_left _ (List.mem_of_getElem? (i := 188) rfl)))))) rfl
def wo_M_put (k : gK) (h0 pB : Nat) (pP : Nat) (pO : Nat) (pS : Nat) (pK : Nat) (th : Int32) (sz : Int32) (op : Int32) (rw : Int32) (bg : Int32) (lo : Int32) (cd : Int32) (wd : Int32) (rm : Int32) (rg : Int32) (rr : Int32) (pl : Int32) (lm : Int32) (nx : Int32) (av : Int64) (sp : Int32) (le : Int32) (la : Int32) (B : Nat → Int32) (L : List Int32) (b : Int32) (zz : (Nat → Int32) × Int32) (uu : Int32 × List Int32) : va_W := match zz, uu with
  | (B2, sz2), (th2, L2) => [(h0, .inr (9, [.ref pP, .ref pO, .int th2, .int sz2, .ref pB, .ref pS, .ref pK, .int op, .int rw, .int bg, .int lo, .int cd, .int wd, .int rm, .int rg, .int rr, .int pl, .int lm, .int nx, .long av, .int sp, .int le, .int la])), (pB, .inl (k.1, 65536, .inl B2))]
def ex_M_put (k : gK) (h0 pB : Nat) (pP : Nat) (pO : Nat) (pS : Nat) (pK : Nat) (th : Int32) (sz : Int32) (op : Int32) (rw : Int32) (bg : Int32) (lo : Int32) (cd : Int32) (wd : Int32) (rm : Int32) (rg : Int32) (rr : Int32) (pl : Int32) (lm : Int32) (nx : Int32) (av : Int64) (sp : Int32) (le : Int32) (la : Int32) (B : Nat → Int32) (L : List Int32) (b : Int32) (zz : (Nat → Int32) × Int32) (uu : Int32 × List Int32) : Prop := match zz, uu with
  | (B2, sz2), (th2, L2) => row_ok 65536 B2 sz2 L2
def po_M_put (k : gK) (h0 pB : Nat) (pP : Nat) (pO : Nat) (pS : Nat) (pK : Nat) (th : Int32) (sz : Int32) (op : Int32) (rw : Int32) (bg : Int32) (lo : Int32) (cd : Int32) (wd : Int32) (rm : Int32) (rg : Int32) (rr : Int32) (pl : Int32) (lm : Int32) (nx : Int32) (av : Int64) (sp : Int32) (le : Int32) (la : Int32) (B : Nat → Int32) (L : List Int32) (b : Int32) (r : Int32) (uu : Int32 × List Int32) : Prop := match uu with
  | (th2, L2) => r = (if mpc b op sz ≤ 0 then nI (L ++ [b]).length else 0) ∧ th2 = mpc b op sz ∧ L2 = (if mpc b op sz ≤ 0 then L ++ [b] else L)
def qc_M_put (D : va_G) (k : gK) (h0 pB : Nat) (pP : Nat) (pO : Nat) (pS : Nat) (pK : Nat) (th : Int32) (sz : Int32) (op : Int32) (rw : Int32) (bg : Int32) (lo : Int32) (cd : Int32) (wd : Int32) (rm : Int32) (rg : Int32) (rr : Int32) (pl : Int32) (lm : Int32) (nx : Int32) (av : Int64) (sp : Int32) (le : Int32) (la : Int32) (B : Nat → Int32) (L : List Int32) (b : Int32) (A : Nat → Prop) : Array Value → State → Outcome → State → Prop := va_Qi (po_M_put k h0 pB pP pO pS pK th sz op rw bg lo cd wd rm rg rr pl lm nx av sp le la B L b) (fun uu t => ∃ zz, ex_M_put k h0 pB pP pO pS pK th sz op rw bg lo cd wd rm rg rr pl lm nx av sp le la B L b zz uu ∧ GP D A (wo_M_put k h0 pB pP pO pS pK th sz op rw bg lo cd wd rm rg rr pl lm nx av sp le la B L b zz uu) t) A
set_option maxHeartbeats 1000000 in
set_option maxRecDepth 100000 in
theorem c_M_put (l : Launch) (hl9 : l.stackTraces = false) (D : va_G) (k : gK) (h0 pB : Nat) (zsz : Nat) (pP : Nat) (pO : Nat) (pS : Nat) (pK : Nat) (th : Int32) (sz : Int32) (op : Int32) (rw : Int32) (bg : Int32) (lo : Int32) (cd : Int32) (wd : Int32) (rm : Int32) (rg : Int32) (rr : Int32) (pl : Int32) (lm : Int32) (nx : Int32) (av : Int64) (sp : Int32) (le : Int32) (la : Int32) (B : Nat → Int32) (L : List Int32) (b : Int32) (hM : row_ok 65536 B sz L) : Met l y_Mdl_put (.code y_Mdl_put b_Mdl_put 2 (some .int) :: AW) ({ frames := 1, cells := 0, slots := 0, locals := 23 }) (va_Pc [.ref h0, .int b] (GG D k [(h0, .inr (9, [.ref pP, .ref pO, .int th, .int sz, .ref pB, .ref pS, .ref pK, .int op, .int rw, .int bg, .int lo, .int cd, .int wd, .int rm, .int rg, .int rr, .int pl, .int lm, .int nx, .long av, .int sp, .int le, .int la])), (pB, .inl (k.1, 65536, .inl B))] zsz)) (qc_M_put D k h0 pB pP pO pS pK th sz op rw bg lo cd wd rm rg rr pl lm nx av sp le la B L b (va_A [(h0, .inr (9, [.ref pP, .ref pO, .int th, .int sz, .ref pB, .ref pS, .ref pK, .int op, .int rw, .int bg, .int lo, .int cd, .int wd, .int rm, .int rg, .int rr, .int pl, .int lm, .int nx, .long av, .int sp, .int le, .int la])), (pB, .inl (k.1, 65536, .inl B))] zsz)) 0 0 (va_A [(h0, .inr (9, [.ref pP, .ref pO, .int th, .int sz, .ref pB, .ref pS, .ref pK, .int op, .int rw, .int bg, .int lo, .int cd, .int wd, .int rm, .int rg, .int rr, .int pl, .int lm, .int nx, .long av, .int sp, .int le, .int la])), (pB, .inl (k.1, 65536, .inl B))] zsz) := by
  refine kMet (ws := [(h0, .inr (9, [.ref pP, .ref pO, .int th, .int sz, .ref pB, .ref pS, .ref pK, .int op, .int rw, .int bg, .int lo, .int cd, .int wd, .int rm, .int rg, .int rr, .int pl, .int lm, .int nx, .long av, .int sp, .int le, .int la])), (pB, .inl (k.1, 65536, .inl B))]) (Qc := qc_M_put D k h0 pB pP pO pS pK th sz op rw bg lo cd wd rm rg rr pl lm nx av sp le la B L b) (by decide) (Nat.le_of_ble_eq_true rfl) (fun p e s m below meth c ls A H Cc hP hD hA hS hl => ?_)
  obtain ⟨hx, hb, hml, hr, hlk, hown, hts, hK, hE, hin⟩ := Cc
  have hl : lv_has ls 2 [(0, .ref h0), (1, .int b)] := hl
  refine lv_aload_n hx hb d_Mdl_put_0 rfl (lv_at hl 0 rfl) ?_
  refine lv_iload_n hx hb d_Mdl_put_1 rfl (lv_at hl 1 rfl) ?_
  refine lv_iconst (v := 0) hx hb d_Mdl_put_2 (by decide) ?_
  refine lv_sipush (v := 255) hx hb d_Mdl_put_3 (by decide) ?_
  refine kqi (va_runS (As := [.int b, .int 0, .int 255]) (rest := [.ref h0]) ⟨hx, hb, hml, hown, hts⟩ (c_M_out l hl9 D k  b 0 255 ) (cwS 3 hts (gS mw_368 mw_369 mw_331 mw_370) rfl rfl rfl (by decide +kernel) ⟨(Nat.le_of_ble_eq_true rfl), (Nat.le_of_ble_eq_true rfl)⟩) (kPreR (wc := []) hE hK hP hS [] rfl) rfl rfl hl.1 rfl (lv_room (Nat.le_of_ble_eq_true rfl)) d_Mdl_put_6 ⟨(Nat.le_of_ble_eq_true rfl), (Nat.le_of_ble_eq_true rfl)⟩) hP hS (fun r1 H locs hw hP hS => ?_)
  replace hw := hw.symm
  subst hw
  refine lv_aload_n hx hb d_Mdl_put_9 rfl (lv_at hl 0 rfl) ?_
  refine va_get (D := D) (ci := 9) (v := .int op) (C := R_Mdl) (T := T_Mdl) (N := 23) hx hb hts inw_Mdl hown hK hP 0 rfl rfl 7 (by decide) (hts (.fieldLink R_Mdl 33 "LikelyBitsModel" "open" "Z") mw_325) (fun _ h9 => h9) rfl d_Mdl_put_10 ?_
  refine lv_aload_n hx hb d_Mdl_put_13 rfl (lv_at hl 0 rfl) ?_
  refine va_get (D := D) (ci := 9) (v := .int sz) (C := R_Mdl) (T := T_Mdl) (N := 23) hx hb hts inw_Mdl hown hK hP 0 rfl rfl 3 (by decide) (hts (.fieldLink R_Mdl 30 "LikelyBitsModel" "size" "I") mw_324) (fun _ h9 => h9) rfl d_Mdl_put_14 ?_
  refine lv_ldc (v := 65536) hx hb hown (hts (.constant R_Mdl 16 65536) mw_371) d_Mdl_put_17 ?_
  refine lv_icmp_ne (tgt := 26) hx hb d_Mdl_put_19 (by decide) (fun c2 => ?_) (fun c2 => ?_)
  · refine lv_iconst (v := 0) hx hb d_Mdl_put_26 (by decide) ?_
    refine kci (wc := [(h0, .inr (9, [.ref pP, .ref pO, .int th, .int sz, .ref pB, .ref pS, .ref pK, .int op, .int rw, .int bg, .int lo, .int cd, .int wd, .int rm, .int rg, .int rr, .int pl, .int lm, .int nx, .long av, .int sp, .int le, .int la]))]) (wr := [(pB, .inl (k.1, 65536, .inl B))]) (va_runV (As := [.int (mot b 0 255), .int op, .int 0]) (rest := []) ⟨hx, hb, hml, hown, hts⟩ (c_M_throwing l hl9 D k h0 H.size pP pO pB pS pK th sz op rw bg lo cd wd rm rg rr pl lm nx av sp le la (mot b 0 255) op 0 ) (cwV 3 hts (gV mw_372 mw_373 mw_374 mw_331 mw_375) rfl rfl rfl (by decide +kernel) ⟨(Nat.le_of_ble_eq_true rfl), (Nat.le_of_ble_eq_true rfl)⟩) (kRecv (q := (R_Mdl, T_Mdl, 23)) (q0 := 0) (ci := 9) hK hP rfl rfl (kPre (wc := [(h0, .inr (9, [.ref pP, .ref pO, .int th, .int sz, .ref pB, .ref pS, .ref pK, .int op, .int rw, .int bg, .int lo, .int cd, .int wd, .int rm, .int rg, .int rr, .int pl, .int lm, .int nx, .long av, .int sp, .int le, .int la]))]) hE hK hP hD hS hA [0] rfl (by decide))) rfl rfl hl.1 rfl (lv_room (Nat.le_of_ble_eq_true rfl)) d_Mdl_put_27 ⟨(Nat.le_of_ble_eq_true rfl), (Nat.le_of_ble_eq_true rfl)⟩) hP hD hS hA [0] [1] rfl rfl (by decide) (by decide) (fun r4 zz uu H locs hw5 hz6 hP hD hS => ?_)
    obtain ⟨th_3, rfl⟩ : ∃ y, y = uu := ⟨_, rfl⟩
    have hw5 : r4 = mtb (mot b 0 255) op 0 ∧ th_3 = mth (mot b 0 255) op 0 := hw5
    have hP : va_P D vwCl [(pB, .inl (k.1, 65536, .inl B)), (h0, .inr (9, [.ref pP, .ref pO, .int th_3, .int sz, .ref pB, .ref pS, .ref pK, .int op, .int rw, .int bg, .int lo, .int cd, .int wd, .int rm, .int rg, .int rr, .int pl, .int lm, .int nx, .long av, .int sp, .int le, .int la]))] H := hP
    have hD : va_D A [(pB, .inl (k.1, 65536, .inl B)), (h0, .inr (9, [.ref pP, .ref pO, .int th_3, .int sz, .ref pB, .ref pS, .ref pK, .int op, .int rw, .int bg, .int lo, .int cd, .int wd, .int rm, .int rg, .int rr, .int pl, .int lm, .int nx, .long av, .int sp, .int le, .int la]))] := hD
    refine lv_if_eq (tgt := 35) hx hb d_Mdl_put_30 (by decide) (fun c7 => ?_) (fun c7 => ?_)
    · have hq8 := mtb_0 (hw5.1 ▸ c7)
      refine lv_aload_n hx hb d_Mdl_put_35 rfl (lv_at hl 0 rfl) ?_
      refine va_get (D := D) (ci := 9) (v := .ref pB) (C := R_Mdl) (T := T_Mdl) (N := 23) hx hb hts inw_Mdl hown hK hP 1 rfl rfl 4 (by decide) (hts (.fieldLink R_Mdl 17 "LikelyBitsModel" "bytes" "[I") mw_333) (fun _ h9 => h9) rfl d_Mdl_put_36 ?_
      refine lv_aload_n hx hb d_Mdl_put_39 rfl (lv_at hl 0 rfl) ?_
      refine va_get (D := D) (ci := 9) (v := .int sz) (C := R_Mdl) (T := T_Mdl) (N := 23) hx hb hts inw_Mdl hown hK hP 1 rfl rfl 3 (by decide) (hts (.fieldLink R_Mdl 30 "LikelyBitsModel" "size" "I") mw_324) (fun _ h9 => h9) rfl d_Mdl_put_40 ?_
      refine lv_iload_n hx hb d_Mdl_put_43 rfl (lv_at hl 1 rfl) ?_
      refine va_iast hx hb hK hP hD hS 0 0 rfl rfl (m_stin hM (m_lt hM c2)) d_Mdl_put_44 (fun H locs hP hD hS => ?_)
      have hP : va_P D vwCl [(pB, .inl (k.1, 65536, .inl (upd B sz.toNatClampNeg b))), (h0, .inr (9, [.ref pP, .ref pO, .int th_3, .int sz, .ref pB, .ref pS, .ref pK, .int op, .int rw, .int bg, .int lo, .int cd, .int wd, .int rm, .int rg, .int rr, .int pl, .int lm, .int nx, .long av, .int sp, .int le, .int la]))] H := hP
      have hD : va_D A [(pB, .inl (k.1, 65536, .inl (upd B sz.toNatClampNeg b))), (h0, .inr (9, [.ref pP, .ref pO, .int th_3, .int sz, .ref pB, .ref pS, .ref pK, .int op, .int rw, .int bg, .int lo, .int cd, .int wd, .int rm, .int rg, .int rr, .int pl, .int lm, .int nx, .long av, .int sp, .int le, .int la]))] := hD
      generalize hB10 : upd B sz.toNatClampNeg b = B10 at hP hD
      have hP : va_P D vwCl [(pB, .inl (k.1, 65536, .inl B10)), (h0, .inr (9, [.ref pP, .ref pO, .int th_3, .int sz, .ref pB, .ref pS, .ref pK, .int op, .int rw, .int bg, .int lo, .int cd, .int wd, .int rm, .int rg, .int rr, .int pl, .int lm, .int nx, .long av, .int sp, .int le, .int la]))] H := hP
      have hD : va_D A [(pB, .inl (k.1, 65536, .inl B10)), (h0, .inr (9, [.ref pP, .ref pO, .int th_3, .int sz, .ref pB, .ref pS, .ref pK, .int op, .int rw, .int bg, .int lo, .int cd, .int wd, .int rm, .int rg, .int rr, .int pl, .int lm, .int nx, .long av, .int sp, .int le, .int la]))] := hD
      have hM9 : row_ok 65536 B10 (sz + 1) (L ++ [b]) := by rw [← hB10]; exact m_app hM (m_lt hM c2)
      refine lv_aload_n hx hb d_Mdl_put_45 rfl (lv_at hl 0 rfl) ?_
      refine lv_dup hx hb d_Mdl_put_46 rfl ?_
      refine va_get (D := D) (ci := 9) (v := .int sz) (C := R_Mdl) (T := T_Mdl) (N := 23) hx hb hts inw_Mdl hown hK hP 1 rfl rfl 3 (by decide) (hts (.fieldLink R_Mdl 30 "LikelyBitsModel" "size" "I") mw_324) (fun _ h9 => h9) rfl d_Mdl_put_47 ?_
      refine lv_iconst (v := 1) hx hb d_Mdl_put_50 (by decide) ?_
      refine lv_iadd hx hb d_Mdl_put_51 ?_
      refine lv_topi (fun x11 ex11 => ?_)
      refine va_put (D := D) (ci := 9) (v := .int x11) (ty := .int) (C := R_Mdl) (T := T_Mdl) (N := 23) hx hb hts inw_Mdl ty_Mdl tyok_Mdl nm_Mdl hown hK hP hD hS 1 rfl rfl 3 (by decide) (hts (.fieldLink R_Mdl 30 "LikelyBitsModel" "size" "I") mw_324) (fun _ h9 => h9) rfl (by decide +kernel) rfl rfl (Nat.le_of_ble_eq_true rfl) d_Mdl_put_52 (fun H locs hP hD hS => ?_)
      have hP : va_P D vwCl [(pB, .inl (k.1, 65536, .inl B10)), (h0, .inr (9, [.ref pP, .ref pO, .int th_3, .int x11, .ref pB, .ref pS, .ref pK, .int op, .int rw, .int bg, .int lo, .int cd, .int wd, .int rm, .int rg, .int rr, .int pl, .int lm, .int nx, .long av, .int sp, .int le, .int la]))] H := hP
      have hD : va_D A [(pB, .inl (k.1, 65536, .inl B10)), (h0, .inr (9, [.ref pP, .ref pO, .int th_3, .int x11, .ref pB, .ref pS, .ref pK, .int op, .int rw, .int bg, .int lo, .int cd, .int wd, .int rm, .int rg, .int rr, .int pl, .int lm, .int nx, .long av, .int sp, .int le, .int la]))] := hD
      refine lv_aload_n hx hb d_Mdl_put_55 rfl (lv_at hl 0 rfl) ?_
      refine va_get (D := D) (ci := 9) (v := .int x11) (C := R_Mdl) (T := T_Mdl) (N := 23) hx hb hts inw_Mdl hown hK hP 1 rfl rfl 3 (by decide) (hts (.fieldLink R_Mdl 30 "LikelyBitsModel" "size" "I") mw_324) (fun _ h9 => h9) rfl d_Mdl_put_56 ?_
      exact kri (wo := wo_M_put k h0 pB pP pO pS pK th sz op rw bg lo cd wd rm rg rr pl lm nx av sp le la B L b) hx hb hr hlk hP hD hS (th_3, (L ++ [b])) (B10, x11) (by have hc9 : mpc b op sz = mth (mot b 0 255) op 0 := (by simp [mpc, c2]); unfold po_M_put; rw [hc9, if_pos hq8, if_pos hq8]; exact ⟨by rw [ex11]; exact hM9.1, hw5.2, rfl⟩) (by unfold ex_M_put; rw [ex11]; exact hM9) [1, 0] rfl (by decide) (Nat.le_of_ble_eq_true rfl) (Nat.le_of_ble_eq_true rfl) d_Mdl_put_59
    · have hq12 := mtb_n (hw5.1 ▸ c7)
      refine lv_iconst (v := 0) hx hb d_Mdl_put_33 (by decide) ?_
      exact kri (wo := wo_M_put k h0 pB pP pO pS pK th sz op rw bg lo cd wd rm rg rr pl lm nx av sp le la B L b) hx hb hr hlk hP hD hS (th_3, L) (B, sz) (by have hc9 : mpc b op sz = mth (mot b 0 255) op 0 := (by simp [mpc, c2]); unfold po_M_put; rw [hc9, if_neg hq12, if_neg hq12]; exact ⟨rfl, hw5.2, rfl⟩) (by unfold ex_M_put; exact hM) [1, 0] rfl (by decide) (Nat.le_of_ble_eq_true rfl) (Nat.le_of_ble_eq_true rfl) d_Mdl_put_34
  · refine lv_iconst (v := 1) hx hb d_Mdl_put_22 (by decide) ?_
    refine lv_goto (tgt := 27) hx hb d_Mdl_put_23 (by decide) ?_
    refine kci (wc := [(h0, .inr (9, [.ref pP, .ref pO, .int th, .int sz, .ref pB, .ref pS, .ref pK, .int op, .int rw, .int bg, .int lo, .int cd, .int wd, .int rm, .int rg, .int rr, .int pl, .int lm, .int nx, .long av, .int sp, .int le, .int la]))]) (wr := [(pB, .inl (k.1, 65536, .inl B))]) (va_runV (As := [.int (mot b 0 255), .int op, .int 1]) (rest := []) ⟨hx, hb, hml, hown, hts⟩ (c_M_throwing l hl9 D k h0 H.size pP pO pB pS pK th sz op rw bg lo cd wd rm rg rr pl lm nx av sp le la (mot b 0 255) op 1 ) (cwV 3 hts (gV mw_372 mw_373 mw_374 mw_331 mw_375) rfl rfl rfl (by decide +kernel) ⟨(Nat.le_of_ble_eq_true rfl), (Nat.le_of_ble_eq_true rfl)⟩) (kRecv (q := (R_Mdl, T_Mdl, 23)) (q0 := 0) (ci := 9) hK hP rfl rfl (kPre (wc := [(h0, .inr (9, [.ref pP, .ref pO, .int th, .int sz, .ref pB, .ref pS, .ref pK, .int op, .int rw, .int bg, .int lo, .int cd, .int wd, .int rm, .int rg, .int rr, .int pl, .int lm, .int nx, .long av, .int sp, .int le, .int la]))]) hE hK hP hD hS hA [0] rfl (by decide))) rfl rfl hl.1 rfl (lv_room (Nat.le_of_ble_eq_true rfl)) d_Mdl_put_27 ⟨(Nat.le_of_ble_eq_true rfl), (Nat.le_of_ble_eq_true rfl)⟩) hP hD hS hA [0] [1] rfl rfl (by decide) (by decide) (fun r14 zz uu H locs hw15 hz16 hP hD hS => ?_)
    obtain ⟨th_13, rfl⟩ : ∃ y, y = uu := ⟨_, rfl⟩
    have hw15 : r14 = mtb (mot b 0 255) op 1 ∧ th_13 = mth (mot b 0 255) op 1 := hw15
    have hP : va_P D vwCl [(pB, .inl (k.1, 65536, .inl B)), (h0, .inr (9, [.ref pP, .ref pO, .int th_13, .int sz, .ref pB, .ref pS, .ref pK, .int op, .int rw, .int bg, .int lo, .int cd, .int wd, .int rm, .int rg, .int rr, .int pl, .int lm, .int nx, .long av, .int sp, .int le, .int la]))] H := hP
    have hD : va_D A [(pB, .inl (k.1, 65536, .inl B)), (h0, .inr (9, [.ref pP, .ref pO, .int th_13, .int sz, .ref pB, .ref pS, .ref pK, .int op, .int rw, .int bg, .int lo, .int cd, .int wd, .int rm, .int rg, .int rr, .int pl, .int lm, .int nx, .long av, .int sp, .int le, .int la]))] := hD
    refine lv_if_eq (tgt := 35) hx hb d_Mdl_put_30 (by decide) (fun c17 => ?_) (fun c17 => ?_)
    · exact absurd (mtb_0 (hw15.1 ▸ c17)) (mth_1 _ _)
    · have hq18 := mtb_n (hw15.1 ▸ c17)
      refine lv_iconst (v := 0) hx hb d_Mdl_put_33 (by decide) ?_
      exact kri (wo := wo_M_put k h0 pB pP pO pS pK th sz op rw bg lo cd wd rm rg rr pl lm nx av sp le la B L b) hx hb hr hlk hP hD hS (th_13, L) (B, sz) (by have hc9 : mpc b op sz = mth (mot b 0 255) op 1 := (by simp [mpc, c2]); unfold po_M_put; rw [hc9, if_neg hq18, if_neg hq18]; exact ⟨rfl, hw15.2, rfl⟩) (by unfold ex_M_put; exact hM) [1, 0] rfl (by decide) (Nat.le_of_ble_eq_true rfl) (Nat.le_of_ble_eq_true rfl) d_Mdl_put_34

def wo_M_at (k : gK) (h0 pB : Nat) (pP : Nat) (pO : Nat) (pS : Nat) (pK : Nat) (th : Int32) (sz : Int32) (op : Int32) (rw : Int32) (bg : Int32) (lo : Int32) (cd : Int32) (wd : Int32) (rm : Int32) (rg : Int32) (rr : Int32) (pl : Int32) (lm : Int32) (nx : Int32) (av : Int64) (sp : Int32) (le : Int32) (la : Int32) (B : Nat → Int32) (L : List Int32) (x : Int32) (zz : Unit) (uu : Int32) : va_W := match zz, uu with
  | _, th2 => [(h0, .inr (9, [.ref pP, .ref pO, .int th2, .int sz, .ref pB, .ref pS, .ref pK, .int op, .int rw, .int bg, .int lo, .int cd, .int wd, .int rm, .int rg, .int rr, .int pl, .int lm, .int nx, .long av, .int sp, .int le, .int la])), (pB, .inl (k.1, 65536, .inl B))]
def ex_M_at (k : gK) (h0 pB : Nat) (pP : Nat) (pO : Nat) (pS : Nat) (pK : Nat) (th : Int32) (sz : Int32) (op : Int32) (rw : Int32) (bg : Int32) (lo : Int32) (cd : Int32) (wd : Int32) (rm : Int32) (rg : Int32) (rr : Int32) (pl : Int32) (lm : Int32) (nx : Int32) (av : Int64) (sp : Int32) (le : Int32) (la : Int32) (B : Nat → Int32) (L : List Int32) (x : Int32) (zz : Unit) (uu : Int32) : Prop := match zz, uu with
  | _, th2 => True
def po_M_at (k : gK) (h0 pB : Nat) (pP : Nat) (pO : Nat) (pS : Nat) (pK : Nat) (th : Int32) (sz : Int32) (op : Int32) (rw : Int32) (bg : Int32) (lo : Int32) (cd : Int32) (wd : Int32) (rm : Int32) (rg : Int32) (rr : Int32) (pl : Int32) (lm : Int32) (nx : Int32) (av : Int64) (sp : Int32) (le : Int32) (la : Int32) (B : Nat → Int32) (L : List Int32) (x : Int32) (r : Int32) (uu : Int32) : Prop := match uu with
  | th2 => r = (if mac x sz ≤ 0 then (if x < 0 then sz else rb L x) else 0) ∧ th2 = mac x sz
def qc_M_at (D : va_G) (k : gK) (h0 pB : Nat) (pP : Nat) (pO : Nat) (pS : Nat) (pK : Nat) (th : Int32) (sz : Int32) (op : Int32) (rw : Int32) (bg : Int32) (lo : Int32) (cd : Int32) (wd : Int32) (rm : Int32) (rg : Int32) (rr : Int32) (pl : Int32) (lm : Int32) (nx : Int32) (av : Int64) (sp : Int32) (le : Int32) (la : Int32) (B : Nat → Int32) (L : List Int32) (x : Int32) (A : Nat → Prop) : Array Value → State → Outcome → State → Prop := va_Qi (po_M_at k h0 pB pP pO pS pK th sz op rw bg lo cd wd rm rg rr pl lm nx av sp le la B L x) (fun uu t => ∃ zz, ex_M_at k h0 pB pP pO pS pK th sz op rw bg lo cd wd rm rg rr pl lm nx av sp le la B L x zz uu ∧ GP D A (wo_M_at k h0 pB pP pO pS pK th sz op rw bg lo cd wd rm rg rr pl lm nx av sp le la B L x zz uu) t) A
set_option maxHeartbeats 1000000 in
set_option maxRecDepth 100000 in
theorem c_M_at (l : Launch) (hl9 : l.stackTraces = false) (D : va_G) (k : gK) (h0 pB : Nat) (zsz : Nat) (pP : Nat) (pO : Nat) (pS : Nat) (pK : Nat) (th : Int32) (sz : Int32) (op : Int32) (rw : Int32) (bg : Int32) (lo : Int32) (cd : Int32) (wd : Int32) (rm : Int32) (rg : Int32) (rr : Int32) (pl : Int32) (lm : Int32) (nx : Int32) (av : Int64) (sp : Int32) (le : Int32) (la : Int32) (B : Nat → Int32) (L : List Int32) (x : Int32) (hM : row_ok 65536 B sz L) : Met l y_Mdl_at (.code y_Mdl_at b_Mdl_at 2 (some .int) :: AW) ({ frames := 1, cells := 0, slots := 0, locals := 23 }) (va_Pc [.ref h0, .int x] (GG D k [(h0, .inr (9, [.ref pP, .ref pO, .int th, .int sz, .ref pB, .ref pS, .ref pK, .int op, .int rw, .int bg, .int lo, .int cd, .int wd, .int rm, .int rg, .int rr, .int pl, .int lm, .int nx, .long av, .int sp, .int le, .int la])), (pB, .inl (k.1, 65536, .inl B))] zsz)) (qc_M_at D k h0 pB pP pO pS pK th sz op rw bg lo cd wd rm rg rr pl lm nx av sp le la B L x (va_A [(h0, .inr (9, [.ref pP, .ref pO, .int th, .int sz, .ref pB, .ref pS, .ref pK, .int op, .int rw, .int bg, .int lo, .int cd, .int wd, .int rm, .int rg, .int rr, .int pl, .int lm, .int nx, .long av, .int sp, .int le, .int la])), (pB, .inl (k.1, 65536, .inl B))] zsz)) 0 0 (va_A [(h0, .inr (9, [.ref pP, .ref pO, .int th, .int sz, .ref pB, .ref pS, .ref pK, .int op, .int rw, .int bg, .int lo, .int cd, .int wd, .int rm, .int rg, .int rr, .int pl, .int lm, .int nx, .long av, .int sp, .int le, .int la])), (pB, .inl (k.1, 65536, .inl B))] zsz) := by
  refine kMet (ws := [(h0, .inr (9, [.ref pP, .ref pO, .int th, .int sz, .ref pB, .ref pS, .ref pK, .int op, .int rw, .int bg, .int lo, .int cd, .int wd, .int rm, .int rg, .int rr, .int pl, .int lm, .int nx, .long av, .int sp, .int le, .int la])), (pB, .inl (k.1, 65536, .inl B))]) (Qc := qc_M_at D k h0 pB pP pO pS pK th sz op rw bg lo cd wd rm rg rr pl lm nx av sp le la B L x) (by decide) (Nat.le_of_ble_eq_true rfl) (fun p e s m below meth c ls A H Cc hP hD hA hS hl => ?_)
  obtain ⟨hx, hb, hml, hr, hlk, hown, hts, hK, hE, hin⟩ := Cc
  have hl : lv_has ls 2 [(0, .ref h0), (1, .int x)] := hl
  refine lv_aload_n hx hb d_Mdl_at_0 rfl (lv_at hl 0 rfl) ?_
  refine lv_iload_n hx hb d_Mdl_at_1 rfl (lv_at hl 1 rfl) ?_
  refine lv_iconst (v := -1) hx hb d_Mdl_at_2 (by decide) ?_
  refine lv_aload_n hx hb d_Mdl_at_3 rfl (lv_at hl 0 rfl) ?_
  refine va_get (D := D) (ci := 9) (v := .int sz) (C := R_Mdl) (T := T_Mdl) (N := 23) hx hb hts inw_Mdl hown hK hP 0 rfl rfl 3 (by decide) (hts (.fieldLink R_Mdl 30 "LikelyBitsModel" "size" "I") mw_324) (fun _ h9 => h9) rfl d_Mdl_at_4 ?_
  refine lv_iconst (v := 1) hx hb d_Mdl_at_7 (by decide) ?_
  refine lv_isub hx hb d_Mdl_at_8 ?_
  refine kqi (va_runS (As := [.int x, .int (-1), .int (sz - 1)]) (rest := [.ref h0]) ⟨hx, hb, hml, hown, hts⟩ (c_M_out l hl9 D k  x (-1) (sz - 1) ) (cwS 3 hts (gS mw_368 mw_369 mw_331 mw_370) rfl rfl rfl (by decide +kernel) ⟨(Nat.le_of_ble_eq_true rfl), (Nat.le_of_ble_eq_true rfl)⟩) (kPreR (wc := []) hE hK hP hS [] rfl) rfl rfl hl.1 rfl (lv_room (Nat.le_of_ble_eq_true rfl)) d_Mdl_at_9 ⟨(Nat.le_of_ble_eq_true rfl), (Nat.le_of_ble_eq_true rfl)⟩) hP hS (fun r1 H locs hw hP hS => ?_)
  replace hw := hw.symm
  subst hw
  refine lv_iconst (v := 0) hx hb d_Mdl_at_12 (by decide) ?_
  refine lv_iconst (v := 0) hx hb d_Mdl_at_13 (by decide) ?_
  refine kci (wc := [(h0, .inr (9, [.ref pP, .ref pO, .int th, .int sz, .ref pB, .ref pS, .ref pK, .int op, .int rw, .int bg, .int lo, .int cd, .int wd, .int rm, .int rg, .int rr, .int pl, .int lm, .int nx, .long av, .int sp, .int le, .int la]))]) (wr := [(pB, .inl (k.1, 65536, .inl B))]) (va_runV (As := [.int (mot x (-1) (sz - 1)), .int 0, .int 0]) (rest := []) ⟨hx, hb, hml, hown, hts⟩ (c_M_throwing l hl9 D k h0 H.size pP pO pB pS pK th sz op rw bg lo cd wd rm rg rr pl lm nx av sp le la (mot x (-1) (sz - 1)) 0 0 ) (cwV 3 hts (gV mw_372 mw_373 mw_374 mw_331 mw_375) rfl rfl rfl (by decide +kernel) ⟨(Nat.le_of_ble_eq_true rfl), (Nat.le_of_ble_eq_true rfl)⟩) (kRecv (q := (R_Mdl, T_Mdl, 23)) (q0 := 0) (ci := 9) hK hP rfl rfl (kPre (wc := [(h0, .inr (9, [.ref pP, .ref pO, .int th, .int sz, .ref pB, .ref pS, .ref pK, .int op, .int rw, .int bg, .int lo, .int cd, .int wd, .int rm, .int rg, .int rr, .int pl, .int lm, .int nx, .long av, .int sp, .int le, .int la]))]) hE hK hP hD hS hA [0] rfl (by decide))) rfl rfl hl.1 rfl (lv_room (Nat.le_of_ble_eq_true rfl)) d_Mdl_at_14 ⟨(Nat.le_of_ble_eq_true rfl), (Nat.le_of_ble_eq_true rfl)⟩) hP hD hS hA [0] [1] rfl rfl (by decide) (by decide) (fun r3 zz uu H locs hw4 hz5 hP hD hS => ?_)
  obtain ⟨th_2, rfl⟩ : ∃ y, y = uu := ⟨_, rfl⟩
  have hw4 : r3 = mtb (mot x (-1) (sz - 1)) 0 0 ∧ th_2 = mth (mot x (-1) (sz - 1)) 0 0 := hw4
  have hP : va_P D vwCl [(pB, .inl (k.1, 65536, .inl B)), (h0, .inr (9, [.ref pP, .ref pO, .int th_2, .int sz, .ref pB, .ref pS, .ref pK, .int op, .int rw, .int bg, .int lo, .int cd, .int wd, .int rm, .int rg, .int rr, .int pl, .int lm, .int nx, .long av, .int sp, .int le, .int la]))] H := hP
  have hD : va_D A [(pB, .inl (k.1, 65536, .inl B)), (h0, .inr (9, [.ref pP, .ref pO, .int th_2, .int sz, .ref pB, .ref pS, .ref pK, .int op, .int rw, .int bg, .int lo, .int cd, .int wd, .int rm, .int rg, .int rr, .int pl, .int lm, .int nx, .long av, .int sp, .int le, .int la]))] := hD
  refine lv_if_eq (tgt := 22) hx hb d_Mdl_at_17 (by decide) (fun c6 => ?_) (fun c6 => ?_)
  · have hq7 := mtb_0 (hw4.1 ▸ c6)
    refine lv_iload_n hx hb d_Mdl_at_22 rfl (lv_at hl 1 rfl) ?_
    refine lv_if_ge (tgt := 33) hx hb d_Mdl_at_23 (by decide) (fun c8 => ?_) (fun c8 => ?_)
    · refine lv_aload_n hx hb d_Mdl_at_33 rfl (lv_at hl 0 rfl) ?_
      refine va_get (D := D) (ci := 9) (v := .ref pB) (C := R_Mdl) (T := T_Mdl) (N := 23) hx hb hts inw_Mdl hown hK hP 1 rfl rfl 4 (by decide) (hts (.fieldLink R_Mdl 17 "LikelyBitsModel" "bytes" "[I") mw_333) (fun _ h9 => h9) rfl d_Mdl_at_34 ?_
      refine lv_iload_n hx hb d_Mdl_at_37 rfl (lv_at hl 1 rfl) ?_
      refine va_iald hx hb hK hP 0 0 rfl rfl (ix_in (by decide) (m_atin hM (mth_0 hq7).1 c8).1 (m_atin hM (mth_0 hq7).1 c8).2.2) d_Mdl_at_38 ?_
      exact kri (wo := wo_M_at k h0 pB pP pO pS pK th sz op rw bg lo cd wd rm rg rr pl lm nx av sp le la B L x) hx hb hr hlk hP hD hS th_2 () (by unfold po_M_at; rw [mac, if_pos hq7]; exact ⟨(by rw [if_neg (Int32.not_lt.mpr c8)]; exact (rb_in hM (m_atin hM (mth_0 hq7).1 c8).1 (m_atin hM (mth_0 hq7).1 c8).2.1)), hw4.2⟩) trivial [1, 0] rfl (by decide) (Nat.le_of_ble_eq_true rfl) (Nat.le_of_ble_eq_true rfl) d_Mdl_at_39
    · refine lv_aload_n hx hb d_Mdl_at_26 rfl (lv_at hl 0 rfl) ?_
      refine va_get (D := D) (ci := 9) (v := .int sz) (C := R_Mdl) (T := T_Mdl) (N := 23) hx hb hts inw_Mdl hown hK hP 1 rfl rfl 3 (by decide) (hts (.fieldLink R_Mdl 30 "LikelyBitsModel" "size" "I") mw_324) (fun _ h9 => h9) rfl d_Mdl_at_27 ?_
      refine lv_goto (tgt := 39) hx hb d_Mdl_at_30 (by decide) ?_
      exact kri (wo := wo_M_at k h0 pB pP pO pS pK th sz op rw bg lo cd wd rm rg rr pl lm nx av sp le la B L x) hx hb hr hlk hP hD hS th_2 () (by unfold po_M_at; rw [mac, if_pos hq7]; exact ⟨(by rw [if_pos (Int32.not_le.mp c8)]), hw4.2⟩) trivial [1, 0] rfl (by decide) (Nat.le_of_ble_eq_true rfl) (Nat.le_of_ble_eq_true rfl) d_Mdl_at_39
  · have hq9 := mtb_n (hw4.1 ▸ c6)
    refine lv_iconst (v := 0) hx hb d_Mdl_at_20 (by decide) ?_
    exact kri (wo := wo_M_at k h0 pB pP pO pS pK th sz op rw bg lo cd wd rm rg rr pl lm nx av sp le la B L x) hx hb hr hlk hP hD hS th_2 () (by unfold po_M_at; rw [mac, if_neg hq9]; exact ⟨rfl, hw4.2⟩) trivial [1, 0] rfl (by decide) (Nat.le_of_ble_eq_true rfl) (Nat.le_of_ble_eq_true rfl) d_Mdl_at_21

def wo_M_open (k : gK) (h0 : Nat) (pP : Nat) (pO : Nat) (pB : Nat) (pS : Nat) (pK : Nat) (th : Int32) (sz : Int32) (op : Int32) (rw : Int32) (bg : Int32) (lo : Int32) (cd : Int32) (wd : Int32) (rm : Int32) (rg : Int32) (rr : Int32) (pl : Int32) (lm : Int32) (nx : Int32) (av : Int64) (sp : Int32) (le : Int32) (la : Int32) (x : Int32) (zz : Unit) (uu : Int32 × Int32 × Int32 × Int32 × Int32 × Int32 × Int32 × Int32 × Int32) : va_W := match zz, uu with
  | _, (th2, op2, rg2, rw2, bg2, lo2, cd2, wd2, rm2) => [(h0, .inr (9, [.ref pP, .ref pO, .int th2, .int sz, .ref pB, .ref pS, .ref pK, .int op2, .int rw2, .int bg2, .int lo2, .int cd2, .int wd2, .int rm2, .int rg2, .int rr, .int pl, .int lm, .int nx, .long av, .int sp, .int le, .int la]))]
def ex_M_open (k : gK) (h0 : Nat) (pP : Nat) (pO : Nat) (pB : Nat) (pS : Nat) (pK : Nat) (th : Int32) (sz : Int32) (op : Int32) (rw : Int32) (bg : Int32) (lo : Int32) (cd : Int32) (wd : Int32) (rm : Int32) (rg : Int32) (rr : Int32) (pl : Int32) (lm : Int32) (nx : Int32) (av : Int64) (sp : Int32) (le : Int32) (la : Int32) (x : Int32) (zz : Unit) (uu : Int32 × Int32 × Int32 × Int32 × Int32 × Int32 × Int32 × Int32 × Int32) : Prop := match zz, uu with
  | _, (th2, op2, rg2, rw2, bg2, lo2, cd2, wd2, rm2) => True
def po_M_open (k : gK) (h0 : Nat) (pP : Nat) (pO : Nat) (pB : Nat) (pS : Nat) (pK : Nat) (th : Int32) (sz : Int32) (op : Int32) (rw : Int32) (bg : Int32) (lo : Int32) (cd : Int32) (wd : Int32) (rm : Int32) (rg : Int32) (rr : Int32) (pl : Int32) (lm : Int32) (nx : Int32) (av : Int64) (sp : Int32) (le : Int32) (la : Int32) (x : Int32) (uu : Int32 × Int32 × Int32 × Int32 × Int32 × Int32 × Int32 × Int32 × Int32) : Prop := match uu with
  | (th2, op2, rg2, rw2, bg2, lo2, cd2, wd2, rm2) => th2 = mth op 0 0 ∧ op2 = (if mth op 0 0 ≤ 0 then 1 else op) ∧ rg2 = (if mth op 0 0 ≤ 0 then 0 else rg) ∧ rw2 = (if mth op 0 0 ≤ 0 then x else rw) ∧ bg2 = (if mth op 0 0 ≤ 0 then sz else bg) ∧ lo2 = (if mth op 0 0 ≤ 0 then 0 else lo) ∧ cd2 = (if mth op 0 0 ≤ 0 then 0 else cd) ∧ wd2 = (if mth op 0 0 ≤ 0 then 32768 else wd) ∧ rm2 = (if mth op 0 0 ≤ 0 then (if x = 0 then 12 else 0) else rm)
def qc_M_open (D : va_G) (k : gK) (h0 : Nat) (pP : Nat) (pO : Nat) (pB : Nat) (pS : Nat) (pK : Nat) (th : Int32) (sz : Int32) (op : Int32) (rw : Int32) (bg : Int32) (lo : Int32) (cd : Int32) (wd : Int32) (rm : Int32) (rg : Int32) (rr : Int32) (pl : Int32) (lm : Int32) (nx : Int32) (av : Int64) (sp : Int32) (le : Int32) (la : Int32) (x : Int32) (A : Nat → Prop) : Array Value → State → Outcome → State → Prop := va_Qv (po_M_open k h0 pP pO pB pS pK th sz op rw bg lo cd wd rm rg rr pl lm nx av sp le la x) (fun uu t => ∃ zz, ex_M_open k h0 pP pO pB pS pK th sz op rw bg lo cd wd rm rg rr pl lm nx av sp le la x zz uu ∧ GP D A (wo_M_open k h0 pP pO pB pS pK th sz op rw bg lo cd wd rm rg rr pl lm nx av sp le la x zz uu) t) A
set_option maxHeartbeats 1000000 in
set_option maxRecDepth 100000 in
theorem c_M_open (l : Launch) (hl9 : l.stackTraces = false) (D : va_G) (k : gK) (h0 : Nat) (zsz : Nat) (pP : Nat) (pO : Nat) (pB : Nat) (pS : Nat) (pK : Nat) (th : Int32) (sz : Int32) (op : Int32) (rw : Int32) (bg : Int32) (lo : Int32) (cd : Int32) (wd : Int32) (rm : Int32) (rg : Int32) (rr : Int32) (pl : Int32) (lm : Int32) (nx : Int32) (av : Int64) (sp : Int32) (le : Int32) (la : Int32) (x : Int32) (hx01 : x = 0 ∨ x = 1) : Met l y_Mdl_open (.code y_Mdl_open b_Mdl_open 2 none :: AW) ({ frames := 1, cells := 0, slots := 0, locals := 23 }) (va_Pc [.ref h0, .int x] (GG D k [(h0, .inr (9, [.ref pP, .ref pO, .int th, .int sz, .ref pB, .ref pS, .ref pK, .int op, .int rw, .int bg, .int lo, .int cd, .int wd, .int rm, .int rg, .int rr, .int pl, .int lm, .int nx, .long av, .int sp, .int le, .int la]))] zsz)) (qc_M_open D k h0 pP pO pB pS pK th sz op rw bg lo cd wd rm rg rr pl lm nx av sp le la x (va_A [(h0, .inr (9, [.ref pP, .ref pO, .int th, .int sz, .ref pB, .ref pS, .ref pK, .int op, .int rw, .int bg, .int lo, .int cd, .int wd, .int rm, .int rg, .int rr, .int pl, .int lm, .int nx, .long av, .int sp, .int le, .int la]))] zsz)) 0 0 (va_A [(h0, .inr (9, [.ref pP, .ref pO, .int th, .int sz, .ref pB, .ref pS, .ref pK, .int op, .int rw, .int bg, .int lo, .int cd, .int wd, .int rm, .int rg, .int rr, .int pl, .int lm, .int nx, .long av, .int sp, .int le, .int la]))] zsz) := by
  refine kMet (ws := [(h0, .inr (9, [.ref pP, .ref pO, .int th, .int sz, .ref pB, .ref pS, .ref pK, .int op, .int rw, .int bg, .int lo, .int cd, .int wd, .int rm, .int rg, .int rr, .int pl, .int lm, .int nx, .long av, .int sp, .int le, .int la]))]) (Qc := qc_M_open D k h0 pP pO pB pS pK th sz op rw bg lo cd wd rm rg rr pl lm nx av sp le la x) (by decide) (Nat.le_of_ble_eq_true rfl) (fun p e s m below meth c ls A H Cc hP hD hA hS hl => ?_)
  obtain ⟨hx, hb, hml, hr, hlk, hown, hts, hK, hE, hin⟩ := Cc
  have hl : lv_has ls 2 [(0, .ref h0), (1, .int x)] := hl
  refine lv_aload_n hx hb d_Mdl_open_0 rfl (lv_at hl 0 rfl) ?_
  refine lv_aload_n hx hb d_Mdl_open_1 rfl (lv_at hl 0 rfl) ?_
  refine va_get (D := D) (ci := 9) (v := .int op) (C := R_Mdl) (T := T_Mdl) (N := 23) hx hb hts inw_Mdl hown hK hP 0 rfl rfl 7 (by decide) (hts (.fieldLink R_Mdl 33 "LikelyBitsModel" "open" "Z") mw_325) (fun _ h9 => h9) rfl d_Mdl_open_2 ?_
  refine lv_iconst (v := 0) hx hb d_Mdl_open_5 (by decide) ?_
  refine lv_iconst (v := 0) hx hb d_Mdl_open_6 (by decide) ?_
  refine kci (wc := [(h0, .inr (9, [.ref pP, .ref pO, .int th, .int sz, .ref pB, .ref pS, .ref pK, .int op, .int rw, .int bg, .int lo, .int cd, .int wd, .int rm, .int rg, .int rr, .int pl, .int lm, .int nx, .long av, .int sp, .int le, .int la]))]) (wr := []) (va_runV (As := [.int op, .int 0, .int 0]) (rest := []) ⟨hx, hb, hml, hown, hts⟩ (c_M_throwing l hl9 D k h0 H.size pP pO pB pS pK th sz op rw bg lo cd wd rm rg rr pl lm nx av sp le la op 0 0 ) (cwV 3 hts (gV mw_372 mw_373 mw_374 mw_331 mw_375) rfl rfl rfl (by decide +kernel) ⟨(Nat.le_of_ble_eq_true rfl), (Nat.le_of_ble_eq_true rfl)⟩) (kRecv (q := (R_Mdl, T_Mdl, 23)) (q0 := 0) (ci := 9) hK hP rfl rfl (kPre (wc := [(h0, .inr (9, [.ref pP, .ref pO, .int th, .int sz, .ref pB, .ref pS, .ref pK, .int op, .int rw, .int bg, .int lo, .int cd, .int wd, .int rm, .int rg, .int rr, .int pl, .int lm, .int nx, .long av, .int sp, .int le, .int la]))]) hE hK hP hD hS hA [0] rfl (by decide))) rfl rfl hl.1 rfl (lv_room (Nat.le_of_ble_eq_true rfl)) d_Mdl_open_7 ⟨(Nat.le_of_ble_eq_true rfl), (Nat.le_of_ble_eq_true rfl)⟩) hP hD hS hA [0] [] rfl rfl (by decide) (by decide) (fun r2 zz uu H locs hw3 hz4 hP hD hS => ?_)
  obtain ⟨th_1, rfl⟩ : ∃ y, y = uu := ⟨_, rfl⟩
  have hw3 : r2 = mtb op 0 0 ∧ th_1 = mth op 0 0 := hw3
  have hP : va_P D vwCl [(h0, .inr (9, [.ref pP, .ref pO, .int th_1, .int sz, .ref pB, .ref pS, .ref pK, .int op, .int rw, .int bg, .int lo, .int cd, .int wd, .int rm, .int rg, .int rr, .int pl, .int lm, .int nx, .long av, .int sp, .int le, .int la]))] H := hP
  have hD : va_D A [(h0, .inr (9, [.ref pP, .ref pO, .int th_1, .int sz, .ref pB, .ref pS, .ref pK, .int op, .int rw, .int bg, .int lo, .int cd, .int wd, .int rm, .int rg, .int rr, .int pl, .int lm, .int nx, .long av, .int sp, .int le, .int la]))] := hD
  refine lv_if_eq (tgt := 14) hx hb d_Mdl_open_10 (by decide) (fun c5 => ?_) (fun c5 => ?_)
  · have hq6 := mtb_0 (hw3.1 ▸ c5)
    refine lv_aload_n hx hb d_Mdl_open_14 rfl (lv_at hl 0 rfl) ?_
    refine lv_iconst (v := 1) hx hb d_Mdl_open_15 (by decide) ?_
    refine va_put (D := D) (ci := 9) (v := .int 1) (ty := .boolean) (C := R_Mdl) (T := T_Mdl) (N := 23) hx hb hts inw_Mdl ty_Mdl tyok_Mdl nm_Mdl hown hK hP hD hS 0 rfl rfl 7 (by decide) (hts (.fieldLink R_Mdl 33 "LikelyBitsModel" "open" "Z") mw_325) (fun _ h9 => h9) rfl (by decide +kernel) rfl rfl (Nat.le_of_ble_eq_true rfl) d_Mdl_open_16 (fun H locs hP hD hS => ?_)
    have hP : va_P D vwCl [(h0, .inr (9, [.ref pP, .ref pO, .int th_1, .int sz, .ref pB, .ref pS, .ref pK, .int 1, .int rw, .int bg, .int lo, .int cd, .int wd, .int rm, .int rg, .int rr, .int pl, .int lm, .int nx, .long av, .int sp, .int le, .int la]))] H := hP
    have hD : va_D A [(h0, .inr (9, [.ref pP, .ref pO, .int th_1, .int sz, .ref pB, .ref pS, .ref pK, .int 1, .int rw, .int bg, .int lo, .int cd, .int wd, .int rm, .int rg, .int rr, .int pl, .int lm, .int nx, .long av, .int sp, .int le, .int la]))] := hD
    refine lv_aload_n hx hb d_Mdl_open_19 rfl (lv_at hl 0 rfl) ?_
    refine lv_iconst (v := 0) hx hb d_Mdl_open_20 (by decide) ?_
    refine va_put (D := D) (ci := 9) (v := .int 0) (ty := .boolean) (C := R_Mdl) (T := T_Mdl) (N := 23) hx hb hts inw_Mdl ty_Mdl tyok_Mdl nm_Mdl hown hK hP hD hS 0 rfl rfl 14 (by decide) (hts (.fieldLink R_Mdl 37 "LikelyBitsModel" "reading" "Z") mw_326) (fun _ h9 => h9) rfl (by decide +kernel) rfl rfl (Nat.le_of_ble_eq_true rfl) d_Mdl_open_21 (fun H locs hP hD hS => ?_)
    have hP : va_P D vwCl [(h0, .inr (9, [.ref pP, .ref pO, .int th_1, .int sz, .ref pB, .ref pS, .ref pK, .int 1, .int rw, .int bg, .int lo, .int cd, .int wd, .int rm, .int 0, .int rr, .int pl, .int lm, .int nx, .long av, .int sp, .int le, .int la]))] H := hP
    have hD : va_D A [(h0, .inr (9, [.ref pP, .ref pO, .int th_1, .int sz, .ref pB, .ref pS, .ref pK, .int 1, .int rw, .int bg, .int lo, .int cd, .int wd, .int rm, .int 0, .int rr, .int pl, .int lm, .int nx, .long av, .int sp, .int le, .int la]))] := hD
    refine lv_aload_n hx hb d_Mdl_open_24 rfl (lv_at hl 0 rfl) ?_
    refine lv_iload_n hx hb d_Mdl_open_25 rfl (lv_at hl 1 rfl) ?_
    refine va_put (D := D) (ci := 9) (v := .int x) (ty := .boolean) (C := R_Mdl) (T := T_Mdl) (N := 23) hx hb hts inw_Mdl ty_Mdl tyok_Mdl nm_Mdl hown hK hP hD hS 0 rfl rfl 8 (by decide) (hts (.fieldLink R_Mdl 93 "LikelyBitsModel" "raw" "Z") mw_376) (fun _ h9 => h9) rfl (by decide +kernel) (bz_n hx01) (bz_f hx01) (Nat.le_of_ble_eq_true rfl) d_Mdl_open_26 (fun H locs hP hD hS => ?_)
    have hP : va_P D vwCl [(h0, .inr (9, [.ref pP, .ref pO, .int th_1, .int sz, .ref pB, .ref pS, .ref pK, .int 1, .int x, .int bg, .int lo, .int cd, .int wd, .int rm, .int 0, .int rr, .int pl, .int lm, .int nx, .long av, .int sp, .int le, .int la]))] H := hP
    have hD : va_D A [(h0, .inr (9, [.ref pP, .ref pO, .int th_1, .int sz, .ref pB, .ref pS, .ref pK, .int 1, .int x, .int bg, .int lo, .int cd, .int wd, .int rm, .int 0, .int rr, .int pl, .int lm, .int nx, .long av, .int sp, .int le, .int la]))] := hD
    refine lv_aload_n hx hb d_Mdl_open_29 rfl (lv_at hl 0 rfl) ?_
    refine lv_aload_n hx hb d_Mdl_open_30 rfl (lv_at hl 0 rfl) ?_
    refine va_get (D := D) (ci := 9) (v := .int sz) (C := R_Mdl) (T := T_Mdl) (N := 23) hx hb hts inw_Mdl hown hK hP 0 rfl rfl 3 (by decide) (hts (.fieldLink R_Mdl 30 "LikelyBitsModel" "size" "I") mw_324) (fun _ h9 => h9) rfl d_Mdl_open_31 ?_
    refine va_put (D := D) (ci := 9) (v := .int sz) (ty := .int) (C := R_Mdl) (T := T_Mdl) (N := 23) hx hb hts inw_Mdl ty_Mdl tyok_Mdl nm_Mdl hown hK hP hD hS 0 rfl rfl 9 (by decide) (hts (.fieldLink R_Mdl 53 "LikelyBitsModel" "begin" "I") mw_327) (fun _ h9 => h9) rfl (by decide +kernel) rfl rfl (Nat.le_of_ble_eq_true rfl) d_Mdl_open_34 (fun H locs hP hD hS => ?_)
    have hP : va_P D vwCl [(h0, .inr (9, [.ref pP, .ref pO, .int th_1, .int sz, .ref pB, .ref pS, .ref pK, .int 1, .int x, .int sz, .int lo, .int cd, .int wd, .int rm, .int 0, .int rr, .int pl, .int lm, .int nx, .long av, .int sp, .int le, .int la]))] H := hP
    have hD : va_D A [(h0, .inr (9, [.ref pP, .ref pO, .int th_1, .int sz, .ref pB, .ref pS, .ref pK, .int 1, .int x, .int sz, .int lo, .int cd, .int wd, .int rm, .int 0, .int rr, .int pl, .int lm, .int nx, .long av, .int sp, .int le, .int la]))] := hD
    refine lv_aload_n hx hb d_Mdl_open_37 rfl (lv_at hl 0 rfl) ?_
    refine lv_iconst (v := 0) hx hb d_Mdl_open_38 (by decide) ?_
    refine va_put (D := D) (ci := 9) (v := .int 0) (ty := .int) (C := R_Mdl) (T := T_Mdl) (N := 23) hx hb hts inw_Mdl ty_Mdl tyok_Mdl nm_Mdl hown hK hP hD hS 0 rfl rfl 10 (by decide) (hts (.fieldLink R_Mdl 73 "LikelyBitsModel" "low" "I") mw_344) (fun _ h9 => h9) rfl (by decide +kernel) rfl rfl (Nat.le_of_ble_eq_true rfl) d_Mdl_open_39 (fun H locs hP hD hS => ?_)
    have hP : va_P D vwCl [(h0, .inr (9, [.ref pP, .ref pO, .int th_1, .int sz, .ref pB, .ref pS, .ref pK, .int 1, .int x, .int sz, .int 0, .int cd, .int wd, .int rm, .int 0, .int rr, .int pl, .int lm, .int nx, .long av, .int sp, .int le, .int la]))] H := hP
    have hD : va_D A [(h0, .inr (9, [.ref pP, .ref pO, .int th_1, .int sz, .ref pB, .ref pS, .ref pK, .int 1, .int x, .int sz, .int 0, .int cd, .int wd, .int rm, .int 0, .int rr, .int pl, .int lm, .int nx, .long av, .int sp, .int le, .int la]))] := hD
    refine lv_aload_n hx hb d_Mdl_open_42 rfl (lv_at hl 0 rfl) ?_
    refine lv_iconst (v := 0) hx hb d_Mdl_open_43 (by decide) ?_
    refine va_put (D := D) (ci := 9) (v := .int 0) (ty := .boolean) (C := R_Mdl) (T := T_Mdl) (N := 23) hx hb hts inw_Mdl ty_Mdl tyok_Mdl nm_Mdl hown hK hP hD hS 0 rfl rfl 11 (by decide) (hts (.fieldLink R_Mdl 60 "LikelyBitsModel" "carried" "Z") mw_334) (fun _ h9 => h9) rfl (by decide +kernel) rfl rfl (Nat.le_of_ble_eq_true rfl) d_Mdl_open_44 (fun H locs hP hD hS => ?_)
    have hP : va_P D vwCl [(h0, .inr (9, [.ref pP, .ref pO, .int th_1, .int sz, .ref pB, .ref pS, .ref pK, .int 1, .int x, .int sz, .int 0, .int 0, .int wd, .int rm, .int 0, .int rr, .int pl, .int lm, .int nx, .long av, .int sp, .int le, .int la]))] H := hP
    have hD : va_D A [(h0, .inr (9, [.ref pP, .ref pO, .int th_1, .int sz, .ref pB, .ref pS, .ref pK, .int 1, .int x, .int sz, .int 0, .int 0, .int wd, .int rm, .int 0, .int rr, .int pl, .int lm, .int nx, .long av, .int sp, .int le, .int la]))] := hD
    refine lv_aload_n hx hb d_Mdl_open_47 rfl (lv_at hl 0 rfl) ?_
    refine lv_ldc (v := 32768) hx hb hown (hts (.constant R_Mdl 52 32768) mw_377) d_Mdl_open_48 ?_
    refine va_put (D := D) (ci := 9) (v := .int 32768) (ty := .int) (C := R_Mdl) (T := T_Mdl) (N := 23) hx hb hts inw_Mdl ty_Mdl tyok_Mdl nm_Mdl hown hK hP hD hS 0 rfl rfl 12 (by decide) (hts (.fieldLink R_Mdl 79 "LikelyBitsModel" "wide" "I") mw_378) (fun _ h9 => h9) rfl (by decide +kernel) rfl rfl (Nat.le_of_ble_eq_true rfl) d_Mdl_open_50 (fun H locs hP hD hS => ?_)
    have hP : va_P D vwCl [(h0, .inr (9, [.ref pP, .ref pO, .int th_1, .int sz, .ref pB, .ref pS, .ref pK, .int 1, .int x, .int sz, .int 0, .int 0, .int 32768, .int rm, .int 0, .int rr, .int pl, .int lm, .int nx, .long av, .int sp, .int le, .int la]))] H := hP
    have hD : va_D A [(h0, .inr (9, [.ref pP, .ref pO, .int th_1, .int sz, .ref pB, .ref pS, .ref pK, .int 1, .int x, .int sz, .int 0, .int 0, .int 32768, .int rm, .int 0, .int rr, .int pl, .int lm, .int nx, .long av, .int sp, .int le, .int la]))] := hD
    refine lv_aload_n hx hb d_Mdl_open_53 rfl (lv_at hl 0 rfl) ?_
    refine lv_aload_n hx hb d_Mdl_open_54 rfl (lv_at hl 0 rfl) ?_
    refine va_get (D := D) (ci := 9) (v := .int x) (C := R_Mdl) (T := T_Mdl) (N := 23) hx hb hts inw_Mdl hown hK hP 0 rfl rfl 8 (by decide) (hts (.fieldLink R_Mdl 93 "LikelyBitsModel" "raw" "Z") mw_376) (fun _ h9 => h9) rfl d_Mdl_open_55 ?_
    refine lv_if_eq (tgt := 65) hx hb d_Mdl_open_58 (by decide) (fun c7 => ?_) (fun c7 => ?_)
    · refine lv_bipush (v := 12) hx hb d_Mdl_open_65 (by decide) ?_
      refine va_put (D := D) (ci := 9) (v := .int 12) (ty := .int) (C := R_Mdl) (T := T_Mdl) (N := 23) hx hb hts inw_Mdl ty_Mdl tyok_Mdl nm_Mdl hown hK hP hD hS 0 rfl rfl 13 (by decide) (hts (.fieldLink R_Mdl 63 "LikelyBitsModel" "room" "I") mw_335) (fun _ h9 => h9) rfl (by decide +kernel) rfl rfl (Nat.le_of_ble_eq_true rfl) d_Mdl_open_67 (fun H locs hP hD hS => ?_)
      have hP : va_P D vwCl [(h0, .inr (9, [.ref pP, .ref pO, .int th_1, .int sz, .ref pB, .ref pS, .ref pK, .int 1, .int x, .int sz, .int 0, .int 0, .int 32768, .int 12, .int 0, .int rr, .int pl, .int lm, .int nx, .long av, .int sp, .int le, .int la]))] H := hP
      have hD : va_D A [(h0, .inr (9, [.ref pP, .ref pO, .int th_1, .int sz, .ref pB, .ref pS, .ref pK, .int 1, .int x, .int sz, .int 0, .int 0, .int 32768, .int 12, .int 0, .int rr, .int pl, .int lm, .int nx, .long av, .int sp, .int le, .int la]))] := hD
      exact krv (wo := wo_M_open k h0 pP pO pB pS pK th sz op rw bg lo cd wd rm rg rr pl lm nx av sp le la x) hx hb hr hlk hP hD hS (th_1, 1, 0, x, sz, 0, 0, 32768, 12) () (by have h8 := hw3.2; simp [po_M_open, h8, hq6, c7]) trivial [0] rfl (by decide) (Nat.le_of_ble_eq_true rfl) (Nat.le_of_ble_eq_true rfl) d_Mdl_open_70
    · refine lv_iconst (v := 0) hx hb d_Mdl_open_61 (by decide) ?_
      refine lv_goto (tgt := 67) hx hb d_Mdl_open_62 (by decide) ?_
      refine va_put (D := D) (ci := 9) (v := .int 0) (ty := .int) (C := R_Mdl) (T := T_Mdl) (N := 23) hx hb hts inw_Mdl ty_Mdl tyok_Mdl nm_Mdl hown hK hP hD hS 0 rfl rfl 13 (by decide) (hts (.fieldLink R_Mdl 63 "LikelyBitsModel" "room" "I") mw_335) (fun _ h9 => h9) rfl (by decide +kernel) rfl rfl (Nat.le_of_ble_eq_true rfl) d_Mdl_open_67 (fun H locs hP hD hS => ?_)
      have hP : va_P D vwCl [(h0, .inr (9, [.ref pP, .ref pO, .int th_1, .int sz, .ref pB, .ref pS, .ref pK, .int 1, .int x, .int sz, .int 0, .int 0, .int 32768, .int 0, .int 0, .int rr, .int pl, .int lm, .int nx, .long av, .int sp, .int le, .int la]))] H := hP
      have hD : va_D A [(h0, .inr (9, [.ref pP, .ref pO, .int th_1, .int sz, .ref pB, .ref pS, .ref pK, .int 1, .int x, .int sz, .int 0, .int 0, .int 32768, .int 0, .int 0, .int rr, .int pl, .int lm, .int nx, .long av, .int sp, .int le, .int la]))] := hD
      exact krv (wo := wo_M_open k h0 pP pO pB pS pK th sz op rw bg lo cd wd rm rg rr pl lm nx av sp le la x) hx hb hr hlk hP hD hS (th_1, 1, 0, x, sz, 0, 0, 32768, 0) () (by have h8 := hw3.2; simp [po_M_open, h8, hq6, c7]) trivial [0] rfl (by decide) (Nat.le_of_ble_eq_true rfl) (Nat.le_of_ble_eq_true rfl) d_Mdl_open_70
  · have hq8 := mtb_n (hw3.1 ▸ c5)
    exact krv (wo := wo_M_open k h0 pP pO pB pS pK th sz op rw bg lo cd wd rm rg rr pl lm nx av sp le la x) hx hb hr hlk hP hD hS (th_1, op, rg, rw, bg, lo, cd, wd, rm) () (by have h8 := hw3.2; simp [po_M_open, h8, hq8]) trivial [0] rfl (by decide) (Nat.le_of_ble_eq_true rfl) (Nat.le_of_ble_eq_true rfl) d_Mdl_open_13

def wo_M_enough (k : gK) (h0 : Nat) (pP : Nat) (pO : Nat) (pB : Nat) (pS : Nat) (pK : Nat) (th : Int32) (sz : Int32) (op : Int32) (rw : Int32) (bg : Int32) (lo : Int32) (cd : Int32) (wd : Int32) (rm : Int32) (rg : Int32) (rr : Int32) (pl : Int32) (lm : Int32) (nx : Int32) (av : Int64) (sp : Int32) (le : Int32) (la : Int32) (zz : Unit) (uu : Int32) : va_W := match zz, uu with
  | _, th2 => [(h0, .inr (9, [.ref pP, .ref pO, .int th2, .int sz, .ref pB, .ref pS, .ref pK, .int op, .int rw, .int bg, .int lo, .int cd, .int wd, .int rm, .int rg, .int rr, .int pl, .int lm, .int nx, .long av, .int sp, .int le, .int la]))]
def ex_M_enough (k : gK) (h0 : Nat) (pP : Nat) (pO : Nat) (pB : Nat) (pS : Nat) (pK : Nat) (th : Int32) (sz : Int32) (op : Int32) (rw : Int32) (bg : Int32) (lo : Int32) (cd : Int32) (wd : Int32) (rm : Int32) (rg : Int32) (rr : Int32) (pl : Int32) (lm : Int32) (nx : Int32) (av : Int64) (sp : Int32) (le : Int32) (la : Int32) (zz : Unit) (uu : Int32) : Prop := match zz, uu with
  | _, th2 => True
def po_M_enough (k : gK) (h0 : Nat) (pP : Nat) (pO : Nat) (pB : Nat) (pS : Nat) (pK : Nat) (th : Int32) (sz : Int32) (op : Int32) (rw : Int32) (bg : Int32) (lo : Int32) (cd : Int32) (wd : Int32) (rm : Int32) (rg : Int32) (rr : Int32) (pl : Int32) (lm : Int32) (nx : Int32) (av : Int64) (sp : Int32) (le : Int32) (la : Int32) (r : Int32) (uu : Int32) : Prop := match uu with
  | th2 => r = (if mth (if op = 0 then 1 else 0) 0 0 ≤ 0 then sz - bg + (if rw = 0 then 5 else 0) else 0) ∧ th2 = mth (if op = 0 then 1 else 0) 0 0
def qc_M_enough (D : va_G) (k : gK) (h0 : Nat) (pP : Nat) (pO : Nat) (pB : Nat) (pS : Nat) (pK : Nat) (th : Int32) (sz : Int32) (op : Int32) (rw : Int32) (bg : Int32) (lo : Int32) (cd : Int32) (wd : Int32) (rm : Int32) (rg : Int32) (rr : Int32) (pl : Int32) (lm : Int32) (nx : Int32) (av : Int64) (sp : Int32) (le : Int32) (la : Int32) (A : Nat → Prop) : Array Value → State → Outcome → State → Prop := va_Qi (po_M_enough k h0 pP pO pB pS pK th sz op rw bg lo cd wd rm rg rr pl lm nx av sp le la) (fun uu t => ∃ zz, ex_M_enough k h0 pP pO pB pS pK th sz op rw bg lo cd wd rm rg rr pl lm nx av sp le la zz uu ∧ GP D A (wo_M_enough k h0 pP pO pB pS pK th sz op rw bg lo cd wd rm rg rr pl lm nx av sp le la zz uu) t) A
set_option maxHeartbeats 1000000 in
set_option maxRecDepth 100000 in
theorem c_M_enough (l : Launch) (hl9 : l.stackTraces = false) (D : va_G) (k : gK) (h0 : Nat) (zsz : Nat) (pP : Nat) (pO : Nat) (pB : Nat) (pS : Nat) (pK : Nat) (th : Int32) (sz : Int32) (op : Int32) (rw : Int32) (bg : Int32) (lo : Int32) (cd : Int32) (wd : Int32) (rm : Int32) (rg : Int32) (rr : Int32) (pl : Int32) (lm : Int32) (nx : Int32) (av : Int64) (sp : Int32) (le : Int32) (la : Int32) : Met l y_Mdl_enough (.code y_Mdl_enough b_Mdl_enough 1 (some .int) :: AW) ({ frames := 1, cells := 0, slots := 0, locals := 23 }) (va_Pc [.ref h0] (GG D k [(h0, .inr (9, [.ref pP, .ref pO, .int th, .int sz, .ref pB, .ref pS, .ref pK, .int op, .int rw, .int bg, .int lo, .int cd, .int wd, .int rm, .int rg, .int rr, .int pl, .int lm, .int nx, .long av, .int sp, .int le, .int la]))] zsz)) (qc_M_enough D k h0 pP pO pB pS pK th sz op rw bg lo cd wd rm rg rr pl lm nx av sp le la (va_A [(h0, .inr (9, [.ref pP, .ref pO, .int th, .int sz, .ref pB, .ref pS, .ref pK, .int op, .int rw, .int bg, .int lo, .int cd, .int wd, .int rm, .int rg, .int rr, .int pl, .int lm, .int nx, .long av, .int sp, .int le, .int la]))] zsz)) 0 0 (va_A [(h0, .inr (9, [.ref pP, .ref pO, .int th, .int sz, .ref pB, .ref pS, .ref pK, .int op, .int rw, .int bg, .int lo, .int cd, .int wd, .int rm, .int rg, .int rr, .int pl, .int lm, .int nx, .long av, .int sp, .int le, .int la]))] zsz) := by
  refine kMet (ws := [(h0, .inr (9, [.ref pP, .ref pO, .int th, .int sz, .ref pB, .ref pS, .ref pK, .int op, .int rw, .int bg, .int lo, .int cd, .int wd, .int rm, .int rg, .int rr, .int pl, .int lm, .int nx, .long av, .int sp, .int le, .int la]))]) (Qc := qc_M_enough D k h0 pP pO pB pS pK th sz op rw bg lo cd wd rm rg rr pl lm nx av sp le la) (by decide) (Nat.le_of_ble_eq_true rfl) (fun p e s m below meth c ls A H Cc hP hD hA hS hl => ?_)
  obtain ⟨hx, hb, hml, hr, hlk, hown, hts, hK, hE, hin⟩ := Cc
  have hl : lv_has ls 1 [(0, .ref h0)] := hl
  refine lv_aload_n hx hb d_Mdl_enough_0 rfl (lv_at hl 0 rfl) ?_
  refine lv_aload_n hx hb d_Mdl_enough_1 rfl (lv_at hl 0 rfl) ?_
  refine va_get (D := D) (ci := 9) (v := .int op) (C := R_Mdl) (T := T_Mdl) (N := 23) hx hb hts inw_Mdl hown hK hP 0 rfl rfl 7 (by decide) (hts (.fieldLink R_Mdl 33 "LikelyBitsModel" "open" "Z") mw_325) (fun _ h9 => h9) rfl d_Mdl_enough_2 ?_
  refine lv_if_ne (tgt := 12) hx hb d_Mdl_enough_5 (by decide) (fun c1 => ?_) (fun c1 => ?_)
  · refine lv_iconst (v := 0) hx hb d_Mdl_enough_12 (by decide) ?_
    refine lv_iconst (v := 0) hx hb d_Mdl_enough_13 (by decide) ?_
    refine lv_iconst (v := 0) hx hb d_Mdl_enough_14 (by decide) ?_
    refine kci (wc := [(h0, .inr (9, [.ref pP, .ref pO, .int th, .int sz, .ref pB, .ref pS, .ref pK, .int op, .int rw, .int bg, .int lo, .int cd, .int wd, .int rm, .int rg, .int rr, .int pl, .int lm, .int nx, .long av, .int sp, .int le, .int la]))]) (wr := []) (va_runV (As := [.int 0, .int 0, .int 0]) (rest := []) ⟨hx, hb, hml, hown, hts⟩ (c_M_throwing l hl9 D k h0 H.size pP pO pB pS pK th sz op rw bg lo cd wd rm rg rr pl lm nx av sp le la 0 0 0 ) (cwV 3 hts (gV mw_372 mw_373 mw_374 mw_331 mw_375) rfl rfl rfl (by decide +kernel) ⟨(Nat.le_of_ble_eq_true rfl), (Nat.le_of_ble_eq_true rfl)⟩) (kRecv (q := (R_Mdl, T_Mdl, 23)) (q0 := 0) (ci := 9) hK hP rfl rfl (kPre (wc := [(h0, .inr (9, [.ref pP, .ref pO, .int th, .int sz, .ref pB, .ref pS, .ref pK, .int op, .int rw, .int bg, .int lo, .int cd, .int wd, .int rm, .int rg, .int rr, .int pl, .int lm, .int nx, .long av, .int sp, .int le, .int la]))]) hE hK hP hD hS hA [0] rfl (by decide))) rfl rfl hl.1 rfl (lv_room (Nat.le_of_ble_eq_true rfl)) d_Mdl_enough_15 ⟨(Nat.le_of_ble_eq_true rfl), (Nat.le_of_ble_eq_true rfl)⟩) hP hD hS hA [0] [] rfl rfl (by decide) (by decide) (fun r3 zz uu H locs hw4 hz5 hP hD hS => ?_)
    obtain ⟨th_2, rfl⟩ : ∃ y, y = uu := ⟨_, rfl⟩
    have hw4 : r3 = mtb 0 0 0 ∧ th_2 = mth 0 0 0 := hw4
    have hP : va_P D vwCl [(h0, .inr (9, [.ref pP, .ref pO, .int th_2, .int sz, .ref pB, .ref pS, .ref pK, .int op, .int rw, .int bg, .int lo, .int cd, .int wd, .int rm, .int rg, .int rr, .int pl, .int lm, .int nx, .long av, .int sp, .int le, .int la]))] H := hP
    have hD : va_D A [(h0, .inr (9, [.ref pP, .ref pO, .int th_2, .int sz, .ref pB, .ref pS, .ref pK, .int op, .int rw, .int bg, .int lo, .int cd, .int wd, .int rm, .int rg, .int rr, .int pl, .int lm, .int nx, .long av, .int sp, .int le, .int la]))] := hD
    refine lv_if_eq (tgt := 23) hx hb d_Mdl_enough_18 (by decide) (fun c6 => ?_) (fun c6 => ?_)
    · have hq7 := mtb_0 (hw4.1 ▸ c6)
      refine lv_aload_n hx hb d_Mdl_enough_23 rfl (lv_at hl 0 rfl) ?_
      refine va_get (D := D) (ci := 9) (v := .int sz) (C := R_Mdl) (T := T_Mdl) (N := 23) hx hb hts inw_Mdl hown hK hP 0 rfl rfl 3 (by decide) (hts (.fieldLink R_Mdl 30 "LikelyBitsModel" "size" "I") mw_324) (fun _ h9 => h9) rfl d_Mdl_enough_24 ?_
      refine lv_aload_n hx hb d_Mdl_enough_27 rfl (lv_at hl 0 rfl) ?_
      refine va_get (D := D) (ci := 9) (v := .int bg) (C := R_Mdl) (T := T_Mdl) (N := 23) hx hb hts inw_Mdl hown hK hP 0 rfl rfl 9 (by decide) (hts (.fieldLink R_Mdl 53 "LikelyBitsModel" "begin" "I") mw_327) (fun _ h9 => h9) rfl d_Mdl_enough_28 ?_
      refine lv_isub hx hb d_Mdl_enough_31 ?_
      refine lv_aload_n hx hb d_Mdl_enough_32 rfl (lv_at hl 0 rfl) ?_
      refine va_get (D := D) (ci := 9) (v := .int rw) (C := R_Mdl) (T := T_Mdl) (N := 23) hx hb hts inw_Mdl hown hK hP 0 rfl rfl 8 (by decide) (hts (.fieldLink R_Mdl 93 "LikelyBitsModel" "raw" "Z") mw_376) (fun _ h9 => h9) rfl d_Mdl_enough_33 ?_
      refine lv_if_eq (tgt := 43) hx hb d_Mdl_enough_36 (by decide) (fun c8 => ?_) (fun c8 => ?_)
      · refine lv_iconst (v := 5) hx hb d_Mdl_enough_43 (by decide) ?_
        refine lv_iadd hx hb d_Mdl_enough_44 ?_
        exact kri (wo := wo_M_enough k h0 pP pO pB pS pK th sz op rw bg lo cd wd rm rg rr pl lm nx av sp le la) hx hb hr hlk hP hD hS th_2 () (by have h8 := hw4.2; unfold po_M_enough; simp only [c1, c8, h8, if_true, if_false, hq7]; exact ⟨by first | rfl | trivial, by first | rfl | trivial⟩) trivial [0] rfl (by decide) (Nat.le_of_ble_eq_true rfl) (Nat.le_of_ble_eq_true rfl) d_Mdl_enough_45
      · refine lv_iconst (v := 0) hx hb d_Mdl_enough_39 (by decide) ?_
        refine lv_goto (tgt := 44) hx hb d_Mdl_enough_40 (by decide) ?_
        refine lv_iadd hx hb d_Mdl_enough_44 ?_
        exact kri (wo := wo_M_enough k h0 pP pO pB pS pK th sz op rw bg lo cd wd rm rg rr pl lm nx av sp le la) hx hb hr hlk hP hD hS th_2 () (by have h8 := hw4.2; unfold po_M_enough; simp only [c1, c8, h8, if_true, if_false, hq7]; exact ⟨by first | rfl | trivial, by first | rfl | trivial⟩) trivial [0] rfl (by decide) (Nat.le_of_ble_eq_true rfl) (Nat.le_of_ble_eq_true rfl) d_Mdl_enough_45
    · have hq9 := mtb_n (hw4.1 ▸ c6)
      refine lv_iconst (v := 0) hx hb d_Mdl_enough_21 (by decide) ?_
      exact kri (wo := wo_M_enough k h0 pP pO pB pS pK th sz op rw bg lo cd wd rm rg rr pl lm nx av sp le la) hx hb hr hlk hP hD hS th_2 () (by have h8 := hw4.2; unfold po_M_enough; simp only [c1, h8, if_true, if_false, hq9]; exact ⟨by first | rfl | trivial, by first | rfl | trivial⟩) trivial [0] rfl (by decide) (Nat.le_of_ble_eq_true rfl) (Nat.le_of_ble_eq_true rfl) d_Mdl_enough_22
  · refine lv_iconst (v := 1) hx hb d_Mdl_enough_8 (by decide) ?_
    refine lv_goto (tgt := 13) hx hb d_Mdl_enough_9 (by decide) ?_
    refine lv_iconst (v := 0) hx hb d_Mdl_enough_13 (by decide) ?_
    refine lv_iconst (v := 0) hx hb d_Mdl_enough_14 (by decide) ?_
    refine kci (wc := [(h0, .inr (9, [.ref pP, .ref pO, .int th, .int sz, .ref pB, .ref pS, .ref pK, .int op, .int rw, .int bg, .int lo, .int cd, .int wd, .int rm, .int rg, .int rr, .int pl, .int lm, .int nx, .long av, .int sp, .int le, .int la]))]) (wr := []) (va_runV (As := [.int 1, .int 0, .int 0]) (rest := []) ⟨hx, hb, hml, hown, hts⟩ (c_M_throwing l hl9 D k h0 H.size pP pO pB pS pK th sz op rw bg lo cd wd rm rg rr pl lm nx av sp le la 1 0 0 ) (cwV 3 hts (gV mw_372 mw_373 mw_374 mw_331 mw_375) rfl rfl rfl (by decide +kernel) ⟨(Nat.le_of_ble_eq_true rfl), (Nat.le_of_ble_eq_true rfl)⟩) (kRecv (q := (R_Mdl, T_Mdl, 23)) (q0 := 0) (ci := 9) hK hP rfl rfl (kPre (wc := [(h0, .inr (9, [.ref pP, .ref pO, .int th, .int sz, .ref pB, .ref pS, .ref pK, .int op, .int rw, .int bg, .int lo, .int cd, .int wd, .int rm, .int rg, .int rr, .int pl, .int lm, .int nx, .long av, .int sp, .int le, .int la]))]) hE hK hP hD hS hA [0] rfl (by decide))) rfl rfl hl.1 rfl (lv_room (Nat.le_of_ble_eq_true rfl)) d_Mdl_enough_15 ⟨(Nat.le_of_ble_eq_true rfl), (Nat.le_of_ble_eq_true rfl)⟩) hP hD hS hA [0] [] rfl rfl (by decide) (by decide) (fun r11 zz uu H locs hw12 hz13 hP hD hS => ?_)
    obtain ⟨th_10, rfl⟩ : ∃ y, y = uu := ⟨_, rfl⟩
    have hw12 : r11 = mtb 1 0 0 ∧ th_10 = mth 1 0 0 := hw12
    have hP : va_P D vwCl [(h0, .inr (9, [.ref pP, .ref pO, .int th_10, .int sz, .ref pB, .ref pS, .ref pK, .int op, .int rw, .int bg, .int lo, .int cd, .int wd, .int rm, .int rg, .int rr, .int pl, .int lm, .int nx, .long av, .int sp, .int le, .int la]))] H := hP
    have hD : va_D A [(h0, .inr (9, [.ref pP, .ref pO, .int th_10, .int sz, .ref pB, .ref pS, .ref pK, .int op, .int rw, .int bg, .int lo, .int cd, .int wd, .int rm, .int rg, .int rr, .int pl, .int lm, .int nx, .long av, .int sp, .int le, .int la]))] := hD
    refine lv_if_eq (tgt := 23) hx hb d_Mdl_enough_18 (by decide) (fun c14 => ?_) (fun c14 => ?_)
    · have hq15 := mtb_0 (hw12.1 ▸ c14)
      refine lv_aload_n hx hb d_Mdl_enough_23 rfl (lv_at hl 0 rfl) ?_
      refine va_get (D := D) (ci := 9) (v := .int sz) (C := R_Mdl) (T := T_Mdl) (N := 23) hx hb hts inw_Mdl hown hK hP 0 rfl rfl 3 (by decide) (hts (.fieldLink R_Mdl 30 "LikelyBitsModel" "size" "I") mw_324) (fun _ h9 => h9) rfl d_Mdl_enough_24 ?_
      refine lv_aload_n hx hb d_Mdl_enough_27 rfl (lv_at hl 0 rfl) ?_
      refine va_get (D := D) (ci := 9) (v := .int bg) (C := R_Mdl) (T := T_Mdl) (N := 23) hx hb hts inw_Mdl hown hK hP 0 rfl rfl 9 (by decide) (hts (.fieldLink R_Mdl 53 "LikelyBitsModel" "begin" "I") mw_327) (fun _ h9 => h9) rfl d_Mdl_enough_28 ?_
      refine lv_isub hx hb d_Mdl_enough_31 ?_
      refine lv_aload_n hx hb d_Mdl_enough_32 rfl (lv_at hl 0 rfl) ?_
      refine va_get (D := D) (ci := 9) (v := .int rw) (C := R_Mdl) (T := T_Mdl) (N := 23) hx hb hts inw_Mdl hown hK hP 0 rfl rfl 8 (by decide) (hts (.fieldLink R_Mdl 93 "LikelyBitsModel" "raw" "Z") mw_376) (fun _ h9 => h9) rfl d_Mdl_enough_33 ?_
      refine lv_if_eq (tgt := 43) hx hb d_Mdl_enough_36 (by decide) (fun c16 => ?_) (fun c16 => ?_)
      · refine lv_iconst (v := 5) hx hb d_Mdl_enough_43 (by decide) ?_
        refine lv_iadd hx hb d_Mdl_enough_44 ?_
        exact kri (wo := wo_M_enough k h0 pP pO pB pS pK th sz op rw bg lo cd wd rm rg rr pl lm nx av sp le la) hx hb hr hlk hP hD hS th_10 () (by have h8 := hw12.2; unfold po_M_enough; simp only [c1, c16, h8, if_true, if_false, hq15]; exact ⟨by first | rfl | trivial, by first | rfl | trivial⟩) trivial [0] rfl (by decide) (Nat.le_of_ble_eq_true rfl) (Nat.le_of_ble_eq_true rfl) d_Mdl_enough_45
      · refine lv_iconst (v := 0) hx hb d_Mdl_enough_39 (by decide) ?_
        refine lv_goto (tgt := 44) hx hb d_Mdl_enough_40 (by decide) ?_
        refine lv_iadd hx hb d_Mdl_enough_44 ?_
        exact kri (wo := wo_M_enough k h0 pP pO pB pS pK th sz op rw bg lo cd wd rm rg rr pl lm nx av sp le la) hx hb hr hlk hP hD hS th_10 () (by have h8 := hw12.2; unfold po_M_enough; simp only [c1, c16, h8, if_true, if_false, hq15]; exact ⟨by first | rfl | trivial, by first | rfl | trivial⟩) trivial [0] rfl (by decide) (Nat.le_of_ble_eq_true rfl) (Nat.le_of_ble_eq_true rfl) d_Mdl_enough_45
    · have hq17 := mtb_n (hw12.1 ▸ c14)
      refine lv_iconst (v := 0) hx hb d_Mdl_enough_21 (by decide) ?_
      exact kri (wo := wo_M_enough k h0 pP pO pB pS pK th sz op rw bg lo cd wd rm rg rr pl lm nx av sp le la) hx hb hr hlk hP hD hS th_10 () (by have h8 := hw12.2; unfold po_M_enough; simp only [c1, h8, if_true, if_false, hq17]; exact ⟨by first | rfl | trivial, by first | rfl | trivial⟩) trivial [0] rfl (by decide) (Nat.le_of_ble_eq_true rfl) (Nat.le_of_ble_eq_true rfl) d_Mdl_enough_22

def wo_M_register (k : gK) (h0 : Nat) (pP : Nat) (pO : Nat) (pB : Nat) (pS : Nat) (pK : Nat) (th : Int32) (sz : Int32) (op : Int32) (rw : Int32) (bg : Int32) (lo : Int32) (cd : Int32) (wd : Int32) (rm : Int32) (rg : Int32) (rr : Int32) (pl : Int32) (lm : Int32) (nx : Int32) (av : Int64) (sp : Int32) (le : Int32) (la : Int32) (x : Int32) (zz : Unit) (uu : Unit) : va_W := match zz, uu with
  | _, _ => [(h0, .inr (9, [.ref pP, .ref pO, .int 0, .int sz, .ref pB, .ref pS, .ref pK, .int op, .int rw, .int bg, .int lo, .int cd, .int wd, .int rm, .int rg, .int rr, .int pl, .int lm, .int nx, .long av, .int sp, .int le, .int la]))]
def ex_M_register (k : gK) (h0 : Nat) (pP : Nat) (pO : Nat) (pB : Nat) (pS : Nat) (pK : Nat) (th : Int32) (sz : Int32) (op : Int32) (rw : Int32) (bg : Int32) (lo : Int32) (cd : Int32) (wd : Int32) (rm : Int32) (rg : Int32) (rr : Int32) (pl : Int32) (lm : Int32) (nx : Int32) (av : Int64) (sp : Int32) (le : Int32) (la : Int32) (x : Int32) (zz : Unit) (uu : Unit) : Prop := match zz, uu with
  | _, _ => True
def po_M_register (k : gK) (h0 : Nat) (pP : Nat) (pO : Nat) (pB : Nat) (pS : Nat) (pK : Nat) (th : Int32) (sz : Int32) (op : Int32) (rw : Int32) (bg : Int32) (lo : Int32) (cd : Int32) (wd : Int32) (rm : Int32) (rg : Int32) (rr : Int32) (pl : Int32) (lm : Int32) (nx : Int32) (av : Int64) (sp : Int32) (le : Int32) (la : Int32) (x : Int32) (r : Int32) (uu : Unit) : Prop := match uu with
  | _ => r = mrg x op rw rg rr lo cd wd rm nx lm sp
def qc_M_register (D : va_G) (k : gK) (h0 : Nat) (pP : Nat) (pO : Nat) (pB : Nat) (pS : Nat) (pK : Nat) (th : Int32) (sz : Int32) (op : Int32) (rw : Int32) (bg : Int32) (lo : Int32) (cd : Int32) (wd : Int32) (rm : Int32) (rg : Int32) (rr : Int32) (pl : Int32) (lm : Int32) (nx : Int32) (av : Int64) (sp : Int32) (le : Int32) (la : Int32) (x : Int32) (A : Nat → Prop) : Array Value → State → Outcome → State → Prop := va_Qi (po_M_register k h0 pP pO pB pS pK th sz op rw bg lo cd wd rm rg rr pl lm nx av sp le la x) (fun uu t => ∃ zz, ex_M_register k h0 pP pO pB pS pK th sz op rw bg lo cd wd rm rg rr pl lm nx av sp le la x zz uu ∧ GP D A (wo_M_register k h0 pP pO pB pS pK th sz op rw bg lo cd wd rm rg rr pl lm nx av sp le la x zz uu) t) A
set_option maxHeartbeats 1000000 in
set_option maxRecDepth 100000 in
theorem c_M_register (l : Launch) (hl9 : l.stackTraces = false) (D : va_G) (k : gK) (h0 : Nat) (zsz : Nat) (pP : Nat) (pO : Nat) (pB : Nat) (pS : Nat) (pK : Nat) (th : Int32) (sz : Int32) (op : Int32) (rw : Int32) (bg : Int32) (lo : Int32) (cd : Int32) (wd : Int32) (rm : Int32) (rg : Int32) (rr : Int32) (pl : Int32) (lm : Int32) (nx : Int32) (av : Int64) (sp : Int32) (le : Int32) (la : Int32) (x : Int32) : Met l y_Mdl_register (.code y_Mdl_register b_Mdl_register 2 (some .int) :: AW) ({ frames := 1, cells := 0, slots := 0, locals := 20 }) (va_Pc [.ref h0, .int x] (GG D k [(h0, .inr (9, [.ref pP, .ref pO, .int th, .int sz, .ref pB, .ref pS, .ref pK, .int op, .int rw, .int bg, .int lo, .int cd, .int wd, .int rm, .int rg, .int rr, .int pl, .int lm, .int nx, .long av, .int sp, .int le, .int la]))] zsz)) (qc_M_register D k h0 pP pO pB pS pK th sz op rw bg lo cd wd rm rg rr pl lm nx av sp le la x (va_A [(h0, .inr (9, [.ref pP, .ref pO, .int th, .int sz, .ref pB, .ref pS, .ref pK, .int op, .int rw, .int bg, .int lo, .int cd, .int wd, .int rm, .int rg, .int rr, .int pl, .int lm, .int nx, .long av, .int sp, .int le, .int la]))] zsz)) 0 0 (va_A [(h0, .inr (9, [.ref pP, .ref pO, .int th, .int sz, .ref pB, .ref pS, .ref pK, .int op, .int rw, .int bg, .int lo, .int cd, .int wd, .int rm, .int rg, .int rr, .int pl, .int lm, .int nx, .long av, .int sp, .int le, .int la]))] zsz) := by
  refine kMet (ws := [(h0, .inr (9, [.ref pP, .ref pO, .int th, .int sz, .ref pB, .ref pS, .ref pK, .int op, .int rw, .int bg, .int lo, .int cd, .int wd, .int rm, .int rg, .int rr, .int pl, .int lm, .int nx, .long av, .int sp, .int le, .int la]))]) (Qc := qc_M_register D k h0 pP pO pB pS pK th sz op rw bg lo cd wd rm rg rr pl lm nx av sp le la x) (by decide) (Nat.le_of_ble_eq_true rfl) (fun p e s m below meth c ls A H Cc hP hD hA hS hl => ?_)
  obtain ⟨hx, hb, hml, hr, hlk, hown, hts, hK, hE, hin⟩ := Cc
  have hl : lv_has ls 2 [(0, .ref h0), (1, .int x)] := hl
  refine lv_aload_n hx hb d_Mdl_register_0 rfl (lv_at hl 0 rfl) ?_
  refine lv_iconst (v := 0) hx hb d_Mdl_register_1 (by decide) ?_
  refine va_put (D := D) (ci := 9) (v := .int 0) (ty := .int) (C := R_Mdl) (T := T_Mdl) (N := 23) hx hb hts inw_Mdl ty_Mdl tyok_Mdl nm_Mdl hown hK hP hD hS 0 rfl rfl 2 (by decide) (hts (.fieldLink R_Mdl 26 "LikelyBitsModel" "thrown" "I") mw_323) (fun _ h9 => h9) rfl (by decide +kernel) rfl rfl (Nat.le_of_ble_eq_true rfl) d_Mdl_register_2 (fun H locs hP hD hS => ?_)
  have hP : va_P D vwCl [(h0, .inr (9, [.ref pP, .ref pO, .int 0, .int sz, .ref pB, .ref pS, .ref pK, .int op, .int rw, .int bg, .int lo, .int cd, .int wd, .int rm, .int rg, .int rr, .int pl, .int lm, .int nx, .long av, .int sp, .int le, .int la]))] H := hP
  have hD : va_D A [(h0, .inr (9, [.ref pP, .ref pO, .int 0, .int sz, .ref pB, .ref pS, .ref pK, .int op, .int rw, .int bg, .int lo, .int cd, .int wd, .int rm, .int rg, .int rr, .int pl, .int lm, .int nx, .long av, .int sp, .int le, .int la]))] := hD
  refine lv_aload_n hx hb d_Mdl_register_5 rfl (lv_at hl 0 rfl) ?_
  refine va_get (D := D) (ci := 9) (v := .int op) (C := R_Mdl) (T := T_Mdl) (N := 23) hx hb hts inw_Mdl hown hK hP 0 rfl rfl 7 (by decide) (hts (.fieldLink R_Mdl 33 "LikelyBitsModel" "open" "Z") mw_325) (fun _ h9 => h9) rfl d_Mdl_register_6 ?_
  refine lv_if_eq (tgt := 65) hx hb d_Mdl_register_9 (by decide) (fun c1 => ?_) (fun c1 => ?_)
  · refine lv_aload_n hx hb d_Mdl_register_65 rfl (lv_at hl 0 rfl) ?_
    refine va_get (D := D) (ci := 9) (v := .int rg) (C := R_Mdl) (T := T_Mdl) (N := 23) hx hb hts inw_Mdl hown hK hP 0 rfl rfl 14 (by decide) (hts (.fieldLink R_Mdl 37 "LikelyBitsModel" "reading" "Z") mw_326) (fun _ h9 => h9) rfl d_Mdl_register_66 ?_
    refine lv_if_eq (tgt := 100) hx hb d_Mdl_register_69 (by decide) (fun c2 => ?_) (fun c2 => ?_)
    · refine lv_aload_n hx hb d_Mdl_register_100 rfl (lv_at hl 0 rfl) ?_
      refine va_get (D := D) (ci := 9) (v := .int rg) (C := R_Mdl) (T := T_Mdl) (N := 23) hx hb hts inw_Mdl hown hK hP 0 rfl rfl 14 (by decide) (hts (.fieldLink R_Mdl 37 "LikelyBitsModel" "reading" "Z") mw_326) (fun _ h9 => h9) rfl d_Mdl_register_101 ?_
      refine lv_if_eq (tgt := 130) hx hb d_Mdl_register_104 (by decide) (fun c3 => ?_) (fun c3 => ?_)
      · refine lv_iconst (v := -1) hx hb d_Mdl_register_130 (by decide) ?_
        exact kri (wo := wo_M_register k h0 pP pO pB pS pK th sz op rw bg lo cd wd rm rg rr pl lm nx av sp le la x) hx hb hr hlk hP hD hS () () (by unfold po_M_register; rw [mrg, if_pos c1, mrg.mrg2, if_pos c2]) trivial [0] rfl (by decide) (Nat.le_of_ble_eq_true rfl) (Nat.le_of_ble_eq_true rfl) d_Mdl_register_131
      · exact absurd c2 c3
    · refine lv_iload_n hx hb d_Mdl_register_72 rfl (lv_at hl 1 rfl) ?_
      refine lv_iconst (v := 3) hx hb d_Mdl_register_73 (by decide) ?_
      refine lv_icmp_ne (tgt := 100) hx hb d_Mdl_register_74 (by decide) (fun c4 => ?_) (fun c4 => ?_)
      · refine lv_aload_n hx hb d_Mdl_register_100 rfl (lv_at hl 0 rfl) ?_
        refine va_get (D := D) (ci := 9) (v := .int rg) (C := R_Mdl) (T := T_Mdl) (N := 23) hx hb hts inw_Mdl hown hK hP 0 rfl rfl 14 (by decide) (hts (.fieldLink R_Mdl 37 "LikelyBitsModel" "reading" "Z") mw_326) (fun _ h9 => h9) rfl d_Mdl_register_101 ?_
        refine lv_if_eq (tgt := 130) hx hb d_Mdl_register_104 (by decide) (fun c5 => ?_) (fun c5 => ?_)
        · exact absurd c5 c2
        · refine lv_iload_n hx hb d_Mdl_register_107 rfl (lv_at hl 1 rfl) ?_
          refine lv_iconst (v := 4) hx hb d_Mdl_register_108 (by decide) ?_
          refine lv_icmp_ne (tgt := 130) hx hb d_Mdl_register_109 (by decide) (fun c6 => ?_) (fun c6 => ?_)
          · refine lv_iconst (v := -1) hx hb d_Mdl_register_130 (by decide) ?_
            exact kri (wo := wo_M_register k h0 pP pO pB pS pK th sz op rw bg lo cd wd rm rg rr pl lm nx av sp le la x) hx hb hr hlk hP hD hS () () (by unfold po_M_register; rw [mrg, if_pos c1, mrg.mrg2, if_neg c2, if_neg c4, if_neg c6]) trivial [0] rfl (by decide) (Nat.le_of_ble_eq_true rfl) (Nat.le_of_ble_eq_true rfl) d_Mdl_register_131
          · refine lv_aload_n hx hb d_Mdl_register_112 rfl (lv_at hl 0 rfl) ?_
            refine va_get (D := D) (ci := 9) (v := .int rr) (C := R_Mdl) (T := T_Mdl) (N := 23) hx hb hts inw_Mdl hown hK hP 0 rfl rfl 15 (by decide) (hts (.fieldLink R_Mdl 114 "LikelyBitsModel" "rawRead" "Z") mw_379) (fun _ h9 => h9) rfl d_Mdl_register_113 ?_
            refine lv_if_eq (tgt := 123) hx hb d_Mdl_register_116 (by decide) (fun c7 => ?_) (fun c7 => ?_)
            · refine lv_aload_n hx hb d_Mdl_register_123 rfl (lv_at hl 0 rfl) ?_
              refine va_get (D := D) (ci := 9) (v := .int sp) (C := R_Mdl) (T := T_Mdl) (N := 23) hx hb hts inw_Mdl hown hK hP 0 rfl rfl 20 (by decide) (hts (.fieldLink R_Mdl 126 "LikelyBitsModel" "span" "I") mw_365) (fun _ h9 => h9) rfl d_Mdl_register_124 ?_
              refine lv_goto (tgt := 131) hx hb d_Mdl_register_127 (by decide) ?_
              exact kri (wo := wo_M_register k h0 pP pO pB pS pK th sz op rw bg lo cd wd rm rg rr pl lm nx av sp le la x) hx hb hr hlk hP hD hS () () (by unfold po_M_register; rw [mrg, if_pos c1, mrg.mrg2, if_neg c2, if_neg c4, if_pos c6, if_pos c7]) trivial [0] rfl (by decide) (Nat.le_of_ble_eq_true rfl) (Nat.le_of_ble_eq_true rfl) d_Mdl_register_131
            · refine lv_iconst (v := -1) hx hb d_Mdl_register_119 (by decide) ?_
              refine lv_goto (tgt := 131) hx hb d_Mdl_register_120 (by decide) ?_
              exact kri (wo := wo_M_register k h0 pP pO pB pS pK th sz op rw bg lo cd wd rm rg rr pl lm nx av sp le la x) hx hb hr hlk hP hD hS () () (by unfold po_M_register; rw [mrg, if_pos c1, mrg.mrg2, if_neg c2, if_neg c4, if_pos c6, if_neg c7]) trivial [0] rfl (by decide) (Nat.le_of_ble_eq_true rfl) (Nat.le_of_ble_eq_true rfl) d_Mdl_register_131
      · refine lv_aload_n hx hb d_Mdl_register_77 rfl (lv_at hl 0 rfl) ?_
        refine va_get (D := D) (ci := 9) (v := .int nx) (C := R_Mdl) (T := T_Mdl) (N := 23) hx hb hts inw_Mdl hown hK hP 0 rfl rfl 18 (by decide) (hts (.fieldLink R_Mdl 117 "LikelyBitsModel" "next" "I") mw_359) (fun _ h9 => h9) rfl d_Mdl_register_78 ?_
        refine lv_aload_n hx hb d_Mdl_register_81 rfl (lv_at hl 0 rfl) ?_
        refine va_get (D := D) (ci := 9) (v := .int lm) (C := R_Mdl) (T := T_Mdl) (N := 23) hx hb hts inw_Mdl hown hK hP 0 rfl rfl 17 (by decide) (hts (.fieldLink R_Mdl 108 "LikelyBitsModel" "limit" "I") mw_355) (fun _ h9 => h9) rfl d_Mdl_register_82 ?_
        refine lv_icmp_ge (tgt := 95) hx hb d_Mdl_register_85 (by decide) (fun c8 => ?_) (fun c8 => ?_)
        · refine lv_aload_n hx hb d_Mdl_register_95 rfl (lv_at hl 0 rfl) ?_
          refine va_get (D := D) (ci := 9) (v := .int lm) (C := R_Mdl) (T := T_Mdl) (N := 23) hx hb hts inw_Mdl hown hK hP 0 rfl rfl 17 (by decide) (hts (.fieldLink R_Mdl 108 "LikelyBitsModel" "limit" "I") mw_355) (fun _ h9 => h9) rfl d_Mdl_register_96 ?_
          exact kri (wo := wo_M_register k h0 pP pO pB pS pK th sz op rw bg lo cd wd rm rg rr pl lm nx av sp le la x) hx hb hr hlk hP hD hS () () (by unfold po_M_register; rw [mrg, if_pos c1, mrg.mrg2, if_neg c2, if_pos c4, if_pos c8]) trivial [0] rfl (by decide) (Nat.le_of_ble_eq_true rfl) (Nat.le_of_ble_eq_true rfl) d_Mdl_register_99
        · refine lv_aload_n hx hb d_Mdl_register_88 rfl (lv_at hl 0 rfl) ?_
          refine va_get (D := D) (ci := 9) (v := .int nx) (C := R_Mdl) (T := T_Mdl) (N := 23) hx hb hts inw_Mdl hown hK hP 0 rfl rfl 18 (by decide) (hts (.fieldLink R_Mdl 117 "LikelyBitsModel" "next" "I") mw_359) (fun _ h9 => h9) rfl d_Mdl_register_89 ?_
          refine lv_goto (tgt := 99) hx hb d_Mdl_register_92 (by decide) ?_
          exact kri (wo := wo_M_register k h0 pP pO pB pS pK th sz op rw bg lo cd wd rm rg rr pl lm nx av sp le la x) hx hb hr hlk hP hD hS () () (by unfold po_M_register; rw [mrg, if_pos c1, mrg.mrg2, if_neg c2, if_pos c4, if_neg c8]) trivial [0] rfl (by decide) (Nat.le_of_ble_eq_true rfl) (Nat.le_of_ble_eq_true rfl) d_Mdl_register_99
  · refine lv_iload_n hx hb d_Mdl_register_12 rfl (lv_at hl 1 rfl) ?_
    refine lv_if_lt (tgt := 65) hx hb d_Mdl_register_13 (by decide) (fun c9 => ?_) (fun c9 => ?_)
    · refine lv_aload_n hx hb d_Mdl_register_65 rfl (lv_at hl 0 rfl) ?_
      refine va_get (D := D) (ci := 9) (v := .int rg) (C := R_Mdl) (T := T_Mdl) (N := 23) hx hb hts inw_Mdl hown hK hP 0 rfl rfl 14 (by decide) (hts (.fieldLink R_Mdl 37 "LikelyBitsModel" "reading" "Z") mw_326) (fun _ h9 => h9) rfl d_Mdl_register_66 ?_
      refine lv_if_eq (tgt := 100) hx hb d_Mdl_register_69 (by decide) (fun c10 => ?_) (fun c10 => ?_)
      · refine lv_aload_n hx hb d_Mdl_register_100 rfl (lv_at hl 0 rfl) ?_
        refine va_get (D := D) (ci := 9) (v := .int rg) (C := R_Mdl) (T := T_Mdl) (N := 23) hx hb hts inw_Mdl hown hK hP 0 rfl rfl 14 (by decide) (hts (.fieldLink R_Mdl 37 "LikelyBitsModel" "reading" "Z") mw_326) (fun _ h9 => h9) rfl d_Mdl_register_101 ?_
        refine lv_if_eq (tgt := 130) hx hb d_Mdl_register_104 (by decide) (fun c11 => ?_) (fun c11 => ?_)
        · refine lv_iconst (v := -1) hx hb d_Mdl_register_130 (by decide) ?_
          exact kri (wo := wo_M_register k h0 pP pO pB pS pK th sz op rw bg lo cd wd rm rg rr pl lm nx av sp le la x) hx hb hr hlk hP hD hS () () (by unfold po_M_register; rw [mrg, if_neg c1, if_pos c9, mrg.mrg2, if_pos c10]) trivial [0] rfl (by decide) (Nat.le_of_ble_eq_true rfl) (Nat.le_of_ble_eq_true rfl) d_Mdl_register_131
        · exact absurd c10 c11
      · refine lv_iload_n hx hb d_Mdl_register_72 rfl (lv_at hl 1 rfl) ?_
        refine lv_iconst (v := 3) hx hb d_Mdl_register_73 (by decide) ?_
        refine lv_icmp_ne (tgt := 100) hx hb d_Mdl_register_74 (by decide) (fun c12 => ?_) (fun c12 => ?_)
        · refine lv_aload_n hx hb d_Mdl_register_100 rfl (lv_at hl 0 rfl) ?_
          refine va_get (D := D) (ci := 9) (v := .int rg) (C := R_Mdl) (T := T_Mdl) (N := 23) hx hb hts inw_Mdl hown hK hP 0 rfl rfl 14 (by decide) (hts (.fieldLink R_Mdl 37 "LikelyBitsModel" "reading" "Z") mw_326) (fun _ h9 => h9) rfl d_Mdl_register_101 ?_
          refine lv_if_eq (tgt := 130) hx hb d_Mdl_register_104 (by decide) (fun c13 => ?_) (fun c13 => ?_)
          · exact absurd c13 c10
          · refine lv_iload_n hx hb d_Mdl_register_107 rfl (lv_at hl 1 rfl) ?_
            refine lv_iconst (v := 4) hx hb d_Mdl_register_108 (by decide) ?_
            refine lv_icmp_ne (tgt := 130) hx hb d_Mdl_register_109 (by decide) (fun c14 => ?_) (fun c14 => ?_)
            · refine lv_iconst (v := -1) hx hb d_Mdl_register_130 (by decide) ?_
              exact kri (wo := wo_M_register k h0 pP pO pB pS pK th sz op rw bg lo cd wd rm rg rr pl lm nx av sp le la x) hx hb hr hlk hP hD hS () () (by unfold po_M_register; rw [mrg, if_neg c1, if_pos c9, mrg.mrg2, if_neg c10, if_neg c12, if_neg c14]) trivial [0] rfl (by decide) (Nat.le_of_ble_eq_true rfl) (Nat.le_of_ble_eq_true rfl) d_Mdl_register_131
            · refine lv_aload_n hx hb d_Mdl_register_112 rfl (lv_at hl 0 rfl) ?_
              refine va_get (D := D) (ci := 9) (v := .int rr) (C := R_Mdl) (T := T_Mdl) (N := 23) hx hb hts inw_Mdl hown hK hP 0 rfl rfl 15 (by decide) (hts (.fieldLink R_Mdl 114 "LikelyBitsModel" "rawRead" "Z") mw_379) (fun _ h9 => h9) rfl d_Mdl_register_113 ?_
              refine lv_if_eq (tgt := 123) hx hb d_Mdl_register_116 (by decide) (fun c15 => ?_) (fun c15 => ?_)
              · refine lv_aload_n hx hb d_Mdl_register_123 rfl (lv_at hl 0 rfl) ?_
                refine va_get (D := D) (ci := 9) (v := .int sp) (C := R_Mdl) (T := T_Mdl) (N := 23) hx hb hts inw_Mdl hown hK hP 0 rfl rfl 20 (by decide) (hts (.fieldLink R_Mdl 126 "LikelyBitsModel" "span" "I") mw_365) (fun _ h9 => h9) rfl d_Mdl_register_124 ?_
                refine lv_goto (tgt := 131) hx hb d_Mdl_register_127 (by decide) ?_
                exact kri (wo := wo_M_register k h0 pP pO pB pS pK th sz op rw bg lo cd wd rm rg rr pl lm nx av sp le la x) hx hb hr hlk hP hD hS () () (by unfold po_M_register; rw [mrg, if_neg c1, if_pos c9, mrg.mrg2, if_neg c10, if_neg c12, if_pos c14, if_pos c15]) trivial [0] rfl (by decide) (Nat.le_of_ble_eq_true rfl) (Nat.le_of_ble_eq_true rfl) d_Mdl_register_131
              · refine lv_iconst (v := -1) hx hb d_Mdl_register_119 (by decide) ?_
                refine lv_goto (tgt := 131) hx hb d_Mdl_register_120 (by decide) ?_
                exact kri (wo := wo_M_register k h0 pP pO pB pS pK th sz op rw bg lo cd wd rm rg rr pl lm nx av sp le la x) hx hb hr hlk hP hD hS () () (by unfold po_M_register; rw [mrg, if_neg c1, if_pos c9, mrg.mrg2, if_neg c10, if_neg c12, if_pos c14, if_neg c15]) trivial [0] rfl (by decide) (Nat.le_of_ble_eq_true rfl) (Nat.le_of_ble_eq_true rfl) d_Mdl_register_131
        · refine lv_aload_n hx hb d_Mdl_register_77 rfl (lv_at hl 0 rfl) ?_
          refine va_get (D := D) (ci := 9) (v := .int nx) (C := R_Mdl) (T := T_Mdl) (N := 23) hx hb hts inw_Mdl hown hK hP 0 rfl rfl 18 (by decide) (hts (.fieldLink R_Mdl 117 "LikelyBitsModel" "next" "I") mw_359) (fun _ h9 => h9) rfl d_Mdl_register_78 ?_
          refine lv_aload_n hx hb d_Mdl_register_81 rfl (lv_at hl 0 rfl) ?_
          refine va_get (D := D) (ci := 9) (v := .int lm) (C := R_Mdl) (T := T_Mdl) (N := 23) hx hb hts inw_Mdl hown hK hP 0 rfl rfl 17 (by decide) (hts (.fieldLink R_Mdl 108 "LikelyBitsModel" "limit" "I") mw_355) (fun _ h9 => h9) rfl d_Mdl_register_82 ?_
          refine lv_icmp_ge (tgt := 95) hx hb d_Mdl_register_85 (by decide) (fun c16 => ?_) (fun c16 => ?_)
          · refine lv_aload_n hx hb d_Mdl_register_95 rfl (lv_at hl 0 rfl) ?_
            refine va_get (D := D) (ci := 9) (v := .int lm) (C := R_Mdl) (T := T_Mdl) (N := 23) hx hb hts inw_Mdl hown hK hP 0 rfl rfl 17 (by decide) (hts (.fieldLink R_Mdl 108 "LikelyBitsModel" "limit" "I") mw_355) (fun _ h9 => h9) rfl d_Mdl_register_96 ?_
            exact kri (wo := wo_M_register k h0 pP pO pB pS pK th sz op rw bg lo cd wd rm rg rr pl lm nx av sp le la x) hx hb hr hlk hP hD hS () () (by unfold po_M_register; rw [mrg, if_neg c1, if_pos c9, mrg.mrg2, if_neg c10, if_pos c12, if_pos c16]) trivial [0] rfl (by decide) (Nat.le_of_ble_eq_true rfl) (Nat.le_of_ble_eq_true rfl) d_Mdl_register_99
          · refine lv_aload_n hx hb d_Mdl_register_88 rfl (lv_at hl 0 rfl) ?_
            refine va_get (D := D) (ci := 9) (v := .int nx) (C := R_Mdl) (T := T_Mdl) (N := 23) hx hb hts inw_Mdl hown hK hP 0 rfl rfl 18 (by decide) (hts (.fieldLink R_Mdl 117 "LikelyBitsModel" "next" "I") mw_359) (fun _ h9 => h9) rfl d_Mdl_register_89 ?_
            refine lv_goto (tgt := 99) hx hb d_Mdl_register_92 (by decide) ?_
            exact kri (wo := wo_M_register k h0 pP pO pB pS pK th sz op rw bg lo cd wd rm rg rr pl lm nx av sp le la x) hx hb hr hlk hP hD hS () () (by unfold po_M_register; rw [mrg, if_neg c1, if_pos c9, mrg.mrg2, if_neg c10, if_pos c12, if_neg c16]) trivial [0] rfl (by decide) (Nat.le_of_ble_eq_true rfl) (Nat.le_of_ble_eq_true rfl) d_Mdl_register_99
    · refine lv_iload_n hx hb d_Mdl_register_16 rfl (lv_at hl 1 rfl) ?_
      refine lv_iconst (v := 2) hx hb d_Mdl_register_17 (by decide) ?_
      refine lv_icmp_gt (tgt := 65) hx hb d_Mdl_register_18 (by decide) (fun c17 => ?_) (fun c17 => ?_)
      · refine lv_aload_n hx hb d_Mdl_register_65 rfl (lv_at hl 0 rfl) ?_
        refine va_get (D := D) (ci := 9) (v := .int rg) (C := R_Mdl) (T := T_Mdl) (N := 23) hx hb hts inw_Mdl hown hK hP 0 rfl rfl 14 (by decide) (hts (.fieldLink R_Mdl 37 "LikelyBitsModel" "reading" "Z") mw_326) (fun _ h9 => h9) rfl d_Mdl_register_66 ?_
        refine lv_if_eq (tgt := 100) hx hb d_Mdl_register_69 (by decide) (fun c18 => ?_) (fun c18 => ?_)
        · refine lv_aload_n hx hb d_Mdl_register_100 rfl (lv_at hl 0 rfl) ?_
          refine va_get (D := D) (ci := 9) (v := .int rg) (C := R_Mdl) (T := T_Mdl) (N := 23) hx hb hts inw_Mdl hown hK hP 0 rfl rfl 14 (by decide) (hts (.fieldLink R_Mdl 37 "LikelyBitsModel" "reading" "Z") mw_326) (fun _ h9 => h9) rfl d_Mdl_register_101 ?_
          refine lv_if_eq (tgt := 130) hx hb d_Mdl_register_104 (by decide) (fun c19 => ?_) (fun c19 => ?_)
          · refine lv_iconst (v := -1) hx hb d_Mdl_register_130 (by decide) ?_
            exact kri (wo := wo_M_register k h0 pP pO pB pS pK th sz op rw bg lo cd wd rm rg rr pl lm nx av sp le la x) hx hb hr hlk hP hD hS () () (by unfold po_M_register; rw [mrg, if_neg c1, if_neg c9, if_pos c17, mrg.mrg2, if_pos c18]) trivial [0] rfl (by decide) (Nat.le_of_ble_eq_true rfl) (Nat.le_of_ble_eq_true rfl) d_Mdl_register_131
          · exact absurd c18 c19
        · refine lv_iload_n hx hb d_Mdl_register_72 rfl (lv_at hl 1 rfl) ?_
          refine lv_iconst (v := 3) hx hb d_Mdl_register_73 (by decide) ?_
          refine lv_icmp_ne (tgt := 100) hx hb d_Mdl_register_74 (by decide) (fun c20 => ?_) (fun c20 => ?_)
          · refine lv_aload_n hx hb d_Mdl_register_100 rfl (lv_at hl 0 rfl) ?_
            refine va_get (D := D) (ci := 9) (v := .int rg) (C := R_Mdl) (T := T_Mdl) (N := 23) hx hb hts inw_Mdl hown hK hP 0 rfl rfl 14 (by decide) (hts (.fieldLink R_Mdl 37 "LikelyBitsModel" "reading" "Z") mw_326) (fun _ h9 => h9) rfl d_Mdl_register_101 ?_
            refine lv_if_eq (tgt := 130) hx hb d_Mdl_register_104 (by decide) (fun c21 => ?_) (fun c21 => ?_)
            · exact absurd c21 c18
            · refine lv_iload_n hx hb d_Mdl_register_107 rfl (lv_at hl 1 rfl) ?_
              refine lv_iconst (v := 4) hx hb d_Mdl_register_108 (by decide) ?_
              refine lv_icmp_ne (tgt := 130) hx hb d_Mdl_register_109 (by decide) (fun c22 => ?_) (fun c22 => ?_)
              · refine lv_iconst (v := -1) hx hb d_Mdl_register_130 (by decide) ?_
                exact kri (wo := wo_M_register k h0 pP pO pB pS pK th sz op rw bg lo cd wd rm rg rr pl lm nx av sp le la x) hx hb hr hlk hP hD hS () () (by unfold po_M_register; rw [mrg, if_neg c1, if_neg c9, if_pos c17, mrg.mrg2, if_neg c18, if_neg c20, if_neg c22]) trivial [0] rfl (by decide) (Nat.le_of_ble_eq_true rfl) (Nat.le_of_ble_eq_true rfl) d_Mdl_register_131
              · refine lv_aload_n hx hb d_Mdl_register_112 rfl (lv_at hl 0 rfl) ?_
                refine va_get (D := D) (ci := 9) (v := .int rr) (C := R_Mdl) (T := T_Mdl) (N := 23) hx hb hts inw_Mdl hown hK hP 0 rfl rfl 15 (by decide) (hts (.fieldLink R_Mdl 114 "LikelyBitsModel" "rawRead" "Z") mw_379) (fun _ h9 => h9) rfl d_Mdl_register_113 ?_
                refine lv_if_eq (tgt := 123) hx hb d_Mdl_register_116 (by decide) (fun c23 => ?_) (fun c23 => ?_)
                · refine lv_aload_n hx hb d_Mdl_register_123 rfl (lv_at hl 0 rfl) ?_
                  refine va_get (D := D) (ci := 9) (v := .int sp) (C := R_Mdl) (T := T_Mdl) (N := 23) hx hb hts inw_Mdl hown hK hP 0 rfl rfl 20 (by decide) (hts (.fieldLink R_Mdl 126 "LikelyBitsModel" "span" "I") mw_365) (fun _ h9 => h9) rfl d_Mdl_register_124 ?_
                  refine lv_goto (tgt := 131) hx hb d_Mdl_register_127 (by decide) ?_
                  exact kri (wo := wo_M_register k h0 pP pO pB pS pK th sz op rw bg lo cd wd rm rg rr pl lm nx av sp le la x) hx hb hr hlk hP hD hS () () (by unfold po_M_register; rw [mrg, if_neg c1, if_neg c9, if_pos c17, mrg.mrg2, if_neg c18, if_neg c20, if_pos c22, if_pos c23]) trivial [0] rfl (by decide) (Nat.le_of_ble_eq_true rfl) (Nat.le_of_ble_eq_true rfl) d_Mdl_register_131
                · refine lv_iconst (v := -1) hx hb d_Mdl_register_119 (by decide) ?_
                  refine lv_goto (tgt := 131) hx hb d_Mdl_register_120 (by decide) ?_
                  exact kri (wo := wo_M_register k h0 pP pO pB pS pK th sz op rw bg lo cd wd rm rg rr pl lm nx av sp le la x) hx hb hr hlk hP hD hS () () (by unfold po_M_register; rw [mrg, if_neg c1, if_neg c9, if_pos c17, mrg.mrg2, if_neg c18, if_neg c20, if_pos c22, if_neg c23]) trivial [0] rfl (by decide) (Nat.le_of_ble_eq_true rfl) (Nat.le_of_ble_eq_true rfl) d_Mdl_register_131
          · refine lv_aload_n hx hb d_Mdl_register_77 rfl (lv_at hl 0 rfl) ?_
            refine va_get (D := D) (ci := 9) (v := .int nx) (C := R_Mdl) (T := T_Mdl) (N := 23) hx hb hts inw_Mdl hown hK hP 0 rfl rfl 18 (by decide) (hts (.fieldLink R_Mdl 117 "LikelyBitsModel" "next" "I") mw_359) (fun _ h9 => h9) rfl d_Mdl_register_78 ?_
            refine lv_aload_n hx hb d_Mdl_register_81 rfl (lv_at hl 0 rfl) ?_
            refine va_get (D := D) (ci := 9) (v := .int lm) (C := R_Mdl) (T := T_Mdl) (N := 23) hx hb hts inw_Mdl hown hK hP 0 rfl rfl 17 (by decide) (hts (.fieldLink R_Mdl 108 "LikelyBitsModel" "limit" "I") mw_355) (fun _ h9 => h9) rfl d_Mdl_register_82 ?_
            refine lv_icmp_ge (tgt := 95) hx hb d_Mdl_register_85 (by decide) (fun c24 => ?_) (fun c24 => ?_)
            · refine lv_aload_n hx hb d_Mdl_register_95 rfl (lv_at hl 0 rfl) ?_
              refine va_get (D := D) (ci := 9) (v := .int lm) (C := R_Mdl) (T := T_Mdl) (N := 23) hx hb hts inw_Mdl hown hK hP 0 rfl rfl 17 (by decide) (hts (.fieldLink R_Mdl 108 "LikelyBitsModel" "limit" "I") mw_355) (fun _ h9 => h9) rfl d_Mdl_register_96 ?_
              exact kri (wo := wo_M_register k h0 pP pO pB pS pK th sz op rw bg lo cd wd rm rg rr pl lm nx av sp le la x) hx hb hr hlk hP hD hS () () (by unfold po_M_register; rw [mrg, if_neg c1, if_neg c9, if_pos c17, mrg.mrg2, if_neg c18, if_pos c20, if_pos c24]) trivial [0] rfl (by decide) (Nat.le_of_ble_eq_true rfl) (Nat.le_of_ble_eq_true rfl) d_Mdl_register_99
            · refine lv_aload_n hx hb d_Mdl_register_88 rfl (lv_at hl 0 rfl) ?_
              refine va_get (D := D) (ci := 9) (v := .int nx) (C := R_Mdl) (T := T_Mdl) (N := 23) hx hb hts inw_Mdl hown hK hP 0 rfl rfl 18 (by decide) (hts (.fieldLink R_Mdl 117 "LikelyBitsModel" "next" "I") mw_359) (fun _ h9 => h9) rfl d_Mdl_register_89 ?_
              refine lv_goto (tgt := 99) hx hb d_Mdl_register_92 (by decide) ?_
              exact kri (wo := wo_M_register k h0 pP pO pB pS pK th sz op rw bg lo cd wd rm rg rr pl lm nx av sp le la x) hx hb hr hlk hP hD hS () () (by unfold po_M_register; rw [mrg, if_neg c1, if_neg c9, if_pos c17, mrg.mrg2, if_neg c18, if_pos c20, if_neg c24]) trivial [0] rfl (by decide) (Nat.le_of_ble_eq_true rfl) (Nat.le_of_ble_eq_true rfl) d_Mdl_register_99
      · refine lv_iload_n hx hb d_Mdl_register_21 rfl (lv_at hl 1 rfl) ?_
        refine lv_iconst (v := 2) hx hb d_Mdl_register_22 (by decide) ?_
        refine lv_icmp_ne (tgt := 33) hx hb d_Mdl_register_23 (by decide) (fun c25 => ?_) (fun c25 => ?_)
        · refine lv_aload_n hx hb d_Mdl_register_33 rfl (lv_at hl 0 rfl) ?_
          refine va_get (D := D) (ci := 9) (v := .int rw) (C := R_Mdl) (T := T_Mdl) (N := 23) hx hb hts inw_Mdl hown hK hP 0 rfl rfl 8 (by decide) (hts (.fieldLink R_Mdl 93 "LikelyBitsModel" "raw" "Z") mw_376) (fun _ h9 => h9) rfl d_Mdl_register_34 ?_
          refine lv_if_eq (tgt := 44) hx hb d_Mdl_register_37 (by decide) (fun c26 => ?_) (fun c26 => ?_)
          · refine lv_iload_n hx hb d_Mdl_register_44 rfl (lv_at hl 1 rfl) ?_
            refine lv_if_ne (tgt := 60) hx hb d_Mdl_register_45 (by decide) (fun c27 => ?_) (fun c27 => ?_)
            · refine lv_aload_n hx hb d_Mdl_register_60 rfl (lv_at hl 0 rfl) ?_
              refine va_get (D := D) (ci := 9) (v := .int wd) (C := R_Mdl) (T := T_Mdl) (N := 23) hx hb hts inw_Mdl hown hK hP 0 rfl rfl 12 (by decide) (hts (.fieldLink R_Mdl 79 "LikelyBitsModel" "wide" "I") mw_378) (fun _ h9 => h9) rfl d_Mdl_register_61 ?_
              exact kri (wo := wo_M_register k h0 pP pO pB pS pK th sz op rw bg lo cd wd rm rg rr pl lm nx av sp le la x) hx hb hr hlk hP hD hS () () (by unfold po_M_register; rw [mrg, if_neg c1, if_neg c9, if_neg c17, if_neg c25, if_pos c26, if_neg c27]) trivial [0] rfl (by decide) (Nat.le_of_ble_eq_true rfl) (Nat.le_of_ble_eq_true rfl) d_Mdl_register_64
            · refine lv_aload_n hx hb d_Mdl_register_48 rfl (lv_at hl 0 rfl) ?_
              refine va_get (D := D) (ci := 9) (v := .int lo) (C := R_Mdl) (T := T_Mdl) (N := 23) hx hb hts inw_Mdl hown hK hP 0 rfl rfl 10 (by decide) (hts (.fieldLink R_Mdl 73 "LikelyBitsModel" "low" "I") mw_344) (fun _ h9 => h9) rfl d_Mdl_register_49 ?_
              refine lv_aload_n hx hb d_Mdl_register_52 rfl (lv_at hl 0 rfl) ?_
              refine kqi (va_runV (As := []) (rest := [.int lo]) ⟨hx, hb, hml, hown, hts⟩ (c_M_carry l hl9 D k h0 pP pO pB pS pK 0 sz op rw bg lo cd wd rm rg rr pl lm nx av sp le la ) (cwV 0 hts (gV mw_340 mw_341 mw_342 mw_331 mw_343) rfl rfl rfl (by decide +kernel) ⟨(Nat.le_of_ble_eq_true rfl), (Nat.le_of_ble_eq_true rfl)⟩) (kRecv (q := (R_Mdl, T_Mdl, 23)) (q0 := 0) (ci := 9) hK hP rfl rfl (kPreR (wc := [(h0, .inr (9, [.ref pP, .ref pO, .int 0, .int sz, .ref pB, .ref pS, .ref pK, .int op, .int rw, .int bg, .int lo, .int cd, .int wd, .int rm, .int rg, .int rr, .int pl, .int lm, .int nx, .long av, .int sp, .int le, .int la]))]) hE hK hP hS [0] rfl)) rfl rfl hl.1 rfl (lv_room (Nat.le_of_ble_eq_true rfl)) d_Mdl_register_53 ⟨(Nat.le_of_ble_eq_true rfl), (Nat.le_of_ble_eq_true rfl)⟩) hP hS (fun r28 H locs hw hP hS => ?_)
              replace hw := hw.symm
              subst hw
              refine lv_iadd hx hb d_Mdl_register_56 ?_
              refine lv_goto (tgt := 64) hx hb d_Mdl_register_57 (by decide) ?_
              exact kri (wo := wo_M_register k h0 pP pO pB pS pK th sz op rw bg lo cd wd rm rg rr pl lm nx av sp le la x) hx hb hr hlk hP hD hS () () (by unfold po_M_register; rw [mrg, if_neg c1, if_neg c9, if_neg c17, if_neg c25, if_pos c26, if_pos c27]) trivial [0] rfl (by decide) (Nat.le_of_ble_eq_true rfl) (Nat.le_of_ble_eq_true rfl) d_Mdl_register_64
          · refine lv_iconst (v := -1) hx hb d_Mdl_register_40 (by decide) ?_
            refine lv_goto (tgt := 64) hx hb d_Mdl_register_41 (by decide) ?_
            exact kri (wo := wo_M_register k h0 pP pO pB pS pK th sz op rw bg lo cd wd rm rg rr pl lm nx av sp le la x) hx hb hr hlk hP hD hS () () (by unfold po_M_register; rw [mrg, if_neg c1, if_neg c9, if_neg c17, if_neg c25, if_neg c26]) trivial [0] rfl (by decide) (Nat.le_of_ble_eq_true rfl) (Nat.le_of_ble_eq_true rfl) d_Mdl_register_64
        · refine lv_aload_n hx hb d_Mdl_register_26 rfl (lv_at hl 0 rfl) ?_
          refine va_get (D := D) (ci := 9) (v := .int rm) (C := R_Mdl) (T := T_Mdl) (N := 23) hx hb hts inw_Mdl hown hK hP 0 rfl rfl 13 (by decide) (hts (.fieldLink R_Mdl 63 "LikelyBitsModel" "room" "I") mw_335) (fun _ h9 => h9) rfl d_Mdl_register_27 ?_
          refine lv_goto (tgt := 64) hx hb d_Mdl_register_30 (by decide) ?_
          exact kri (wo := wo_M_register k h0 pP pO pB pS pK th sz op rw bg lo cd wd rm rg rr pl lm nx av sp le la x) hx hb hr hlk hP hD hS () () (by unfold po_M_register; rw [mrg, if_neg c1, if_neg c9, if_neg c17, if_pos c25]) trivial [0] rfl (by decide) (Nat.le_of_ble_eq_true rfl) (Nat.le_of_ble_eq_true rfl) d_Mdl_register_64

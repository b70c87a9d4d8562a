set_option maxRecDepth 20000 in
theorem mw_424 : (Cond.constantLong R_Mdl 132 2147483647) ∈ AW := inAW (List.mem_append_right _ (show _ ∈ tables_1_1 ++ (tables_1_2 ++ (tables_1_3 ++ tables_1_4)) from (List.mem_append_right _ (List.mem_append_right _ (List.mem_append_right _ (List.mem_of_getElem? (i := 103) rfl)))))) rfl
def wo_M_read (k : gK) (h0 pB : Nat) (pP : Nat) (pO : Nat) (pS : Nat) (pK : Nat) (th : Int32) (sz : Int32) (op : Int32) (rw : Int32) (bg : Int32) (lo : Int32) (cd : Int32) (wd : Int32) (rm : Int32) (rg : Int32) (rr : Int32) (pl : Int32) (lm : Int32) (nx : Int32) (av : Int64) (sp : Int32) (le : Int32) (la : Int32) (B : Nat → Int32) (L : List Int32) (x : Int32) (y : Int32) (v : Int32) (zz : Unit) (uu : Int32 × Int32 × Int32 × Int32 × Int32 × Int32 × Int64 × Int32 × Int32 × Int32) : va_W := match zz, uu with
  | _, (th2, rg2, rr2, pl2, lm2, nx2, av2, sp2, le2, la2) => [(h0, .inr (9, [.ref pP, .ref pO, .int th2, .int sz, .ref pB, .ref pS, .ref pK, .int op, .int rw, .int bg, .int lo, .int cd, .int wd, .int rm, .int rg2, .int rr2, .int pl2, .int lm2, .int nx2, .long av2, .int sp2, .int le2, .int la2])), (pB, .inl (k.1, 65536, .inl B))]
def ex_M_read (k : gK) (h0 pB : Nat) (pP : Nat) (pO : Nat) (pS : Nat) (pK : Nat) (th : Int32) (sz : Int32) (op : Int32) (rw : Int32) (bg : Int32) (lo : Int32) (cd : Int32) (wd : Int32) (rm : Int32) (rg : Int32) (rr : Int32) (pl : Int32) (lm : Int32) (nx : Int32) (av : Int64) (sp : Int32) (le : Int32) (la : Int32) (B : Nat → Int32) (L : List Int32) (x : Int32) (y : Int32) (v : Int32) (zz : Unit) (uu : Int32 × Int32 × Int32 × Int32 × Int32 × Int32 × Int64 × Int32 × Int32 × Int32) : Prop := match zz, uu with
  | _, (th2, rg2, rr2, pl2, lm2, nx2, av2, sp2, le2, la2) => True
def po_M_read (k : gK) (h0 pB : Nat) (pP : Nat) (pO : Nat) (pS : Nat) (pK : Nat) (th : Int32) (sz : Int32) (op : Int32) (rw : Int32) (bg : Int32) (lo : Int32) (cd : Int32) (wd : Int32) (rm : Int32) (rg : Int32) (rr : Int32) (pl : Int32) (lm : Int32) (nx : Int32) (av : Int64) (sp : Int32) (le : Int32) (la : Int32) (B : Nat → Int32) (L : List Int32) (x : Int32) (y : Int32) (v : Int32) (uu : Int32 × Int32 × Int32 × Int32 × Int32 × Int32 × Int64 × Int32 × Int32 × Int32) : Prop := match uu with
  | (th2, rg2, rr2, pl2, lm2, nx2, av2, sp2, le2, la2) => th2 = mrx op y v sz ∧ (mrx op y v sz ≤ 0 → rg2 = 1 ∧ rr2 = x ∧ pl2 = y ∧ lm2 = v ∧ nx2 = (if x = 0 then (mrv L y v).2.2.2 else 0) ∧ av2 = (if x = 0 then mra L y v else av) ∧ sp2 = (if x = 0 then 32768 else sp) ∧ le2 = (if x = 0 then (mrv L y v).2.1 - 7 else 0) ∧ la2 = (if x = 0 then (mrv L y v).2.2.1 else 0)) ∧ (¬ mrx op y v sz ≤ 0 → rg2 = rg ∧ rr2 = rr ∧ pl2 = pl ∧ lm2 = lm ∧ nx2 = nx ∧ av2 = av ∧ sp2 = sp ∧ le2 = le ∧ la2 = la)
def qc_M_read (D : va_G) (k : gK) (h0 pB : Nat) (pP : Nat) (pO : Nat) (pS : Nat) (pK : Nat) (th : Int32) (sz : Int32) (op : Int32) (rw : Int32) (bg : Int32) (lo : Int32) (cd : Int32) (wd : Int32) (rm : Int32) (rg : Int32) (rr : Int32) (pl : Int32) (lm : Int32) (nx : Int32) (av : Int64) (sp : Int32) (le : Int32) (la : Int32) (B : Nat → Int32) (L : List Int32) (x : Int32) (y : Int32) (v : Int32) (A : Nat → Prop) : Array Value → State → Outcome → State → Prop := va_Qv (po_M_read k h0 pB pP pO pS pK th sz op rw bg lo cd wd rm rg rr pl lm nx av sp le la B L x y v) (fun uu t => ∃ zz, ex_M_read k h0 pB pP pO pS pK th sz op rw bg lo cd wd rm rg rr pl lm nx av sp le la B L x y v zz uu ∧ GP D A (wo_M_read k h0 pB pP pO pS pK th sz op rw bg lo cd wd rm rg rr pl lm nx av sp le la B L x y v zz uu) t) A
set_option maxHeartbeats 1000000 in
set_option maxRecDepth 100000 in
theorem c_M_read (l : Launch) (hl9 : l.stackTraces = false) (D : va_G) (k : gK) (h0 pB : Nat) (zsz : Nat) (pP : Nat) (pO : Nat) (pS : Nat) (pK : Nat) (th : Int32) (sz : Int32) (op : Int32) (rw : Int32) (bg : Int32) (lo : Int32) (cd : Int32) (wd : Int32) (rm : Int32) (rg : Int32) (rr : Int32) (pl : Int32) (lm : Int32) (nx : Int32) (av : Int64) (sp : Int32) (le : Int32) (la : Int32) (B : Nat → Int32) (L : List Int32) (x : Int32) (y : Int32) (v : Int32) (hM : row_ok 65536 B sz L) (hx01 : x = 0 ∨ x = 1) (hop01 : op = 0 ∨ op = 1) : Met l y_Mdl_read (.code y_Mdl_read b_Mdl_read 7 none :: AW) ({ frames := 2, cells := 0, slots := 0, locals := 41 }) (va_Pc [.ref h0, .int x, .int y, .int v] (GG D k [(h0, .inr (9, [.ref pP, .ref pO, .int th, .int sz, .ref pB, .ref pS, .ref pK, .int op, .int rw, .int bg, .int lo, .int cd, .int wd, .int rm, .int rg, .int rr, .int pl, .int lm, .int nx, .long av, .int sp, .int le, .int la])), (pB, .inl (k.1, 65536, .inl B))] zsz)) (qc_M_read D k h0 pB pP pO pS pK th sz op rw bg lo cd wd rm rg rr pl lm nx av sp le la B L x y v (va_A [(h0, .inr (9, [.ref pP, .ref pO, .int th, .int sz, .ref pB, .ref pS, .ref pK, .int op, .int rw, .int bg, .int lo, .int cd, .int wd, .int rm, .int rg, .int rr, .int pl, .int lm, .int nx, .long av, .int sp, .int le, .int la])), (pB, .inl (k.1, 65536, .inl B))] zsz)) 0 0 (va_A [(h0, .inr (9, [.ref pP, .ref pO, .int th, .int sz, .ref pB, .ref pS, .ref pK, .int op, .int rw, .int bg, .int lo, .int cd, .int wd, .int rm, .int rg, .int rr, .int pl, .int lm, .int nx, .long av, .int sp, .int le, .int la])), (pB, .inl (k.1, 65536, .inl B))] zsz) := by
  refine kMet (ws := [(h0, .inr (9, [.ref pP, .ref pO, .int th, .int sz, .ref pB, .ref pS, .ref pK, .int op, .int rw, .int bg, .int lo, .int cd, .int wd, .int rm, .int rg, .int rr, .int pl, .int lm, .int nx, .long av, .int sp, .int le, .int la])), (pB, .inl (k.1, 65536, .inl B))]) (Qc := qc_M_read D k h0 pB pP pO pS pK th sz op rw bg lo cd wd rm rg rr pl lm nx av sp le la B L x y v) (by decide) (Nat.le_of_ble_eq_true rfl) (fun p e s m below meth c ls A H Cc hP hD hA hS hl => ?_)
  obtain ⟨hx, hb, hml, hr, hlk, hown, hts, hK, hE, hin⟩ := Cc
  have hl : lv_has ls 7 [(0, .ref h0), (1, .int x), (2, .int y), (3, .int v)] := hl
  refine lv_iload_n hx hb d_Mdl_read_0 rfl (lv_at hl 2 rfl) ?_
  refine lv_if_lt (tgt := 30) hx hb d_Mdl_read_1 (by decide) (fun c1 => ?_) (fun c1 => ?_)
  · refine lv_iconst (v := 0) hx hb d_Mdl_read_30 (by decide) ?_
    refine lv_istore (lv' := [(4, .int 0), (0, .ref h0), (1, .int x), (2, .int y), (3, .int v)]) hx hb d_Mdl_read_31 hl (by decide) rfl (fun ls hl => ?_)
    refine lv_aload_n hx hb d_Mdl_read_33 rfl (lv_at hl 1 rfl) ?_
    refine lv_aload_n hx hb d_Mdl_read_34 rfl (lv_at hl 1 rfl) ?_
    refine va_get (D := D) (ci := 9) (v := .int op) (C := R_Mdl) (T := T_Mdl) (N := 23) hx hb hts inw_Mdl hown hK hP 0 rfl rfl 7 (by decide) (hts (.fieldLink R_Mdl 33 "LikelyBitsModel" "open" "Z") mw_325) (fun _ h9 => h9) rfl d_Mdl_read_35 ?_
    refine lv_iload hx hb d_Mdl_read_38 (lv_at hl 0 rfl) ?_
    refine lv_if_ne (tgt := 47) hx hb d_Mdl_read_40 (by decide) (fun c2 => ?_) (fun c2 => ?_)
    · exact absurd rfl c2
    · refine lv_iconst (v := 1) hx hb d_Mdl_read_43 (by decide) ?_
      refine lv_goto (tgt := 48) hx hb d_Mdl_read_44 (by decide) ?_
      refine lv_iconst (v := 0) hx hb d_Mdl_read_48 (by decide) ?_
      refine kci (wc := [(h0, .inr (9, [.ref pP, .ref pO, .int th, .int sz, .ref pB, .ref pS, .ref pK, .int op, .int rw, .int bg, .int lo, .int cd, .int wd, .int rm, .int rg, .int rr, .int pl, .int lm, .int nx, .long av, .int sp, .int le, .int la]))]) (wr := [(pB, .inl (k.1, 65536, .inl B))]) (va_runV (As := [.int op, .int 1, .int 0]) (rest := []) ⟨hx, hb, hml, hown, hts⟩ (c_M_throwing l hl9 D k h0 H.size pP pO pB pS pK th sz op rw bg lo cd wd rm rg rr pl lm nx av sp le la op 1 0 ) (cwV 3 hts (gV mw_372 mw_373 mw_374 mw_331 mw_375) rfl rfl rfl (by decide +kernel) ⟨(Nat.le_of_ble_eq_true rfl), (Nat.le_of_ble_eq_true rfl)⟩) (kRecv (q := (R_Mdl, T_Mdl, 23)) (q0 := 0) (ci := 9) hK hP rfl rfl (kPre (wc := [(h0, .inr (9, [.ref pP, .ref pO, .int th, .int sz, .ref pB, .ref pS, .ref pK, .int op, .int rw, .int bg, .int lo, .int cd, .int wd, .int rm, .int rg, .int rr, .int pl, .int lm, .int nx, .long av, .int sp, .int le, .int la]))]) hE hK hP hD hS hA [0] rfl (by decide))) rfl rfl hl.1 rfl (lv_room (Nat.le_of_ble_eq_true rfl)) d_Mdl_read_49 ⟨(Nat.le_of_ble_eq_true rfl), (Nat.le_of_ble_eq_true rfl)⟩) hP hD hS hA [0] [1] rfl rfl (by decide) (by decide) (fun r4 zz uu H locs hw5 hz6 hP hD hS => ?_)
      obtain ⟨th_3, rfl⟩ : ∃ y, y = uu := ⟨_, rfl⟩
      have hw5 : r4 = mtb op 1 0 ∧ th_3 = mth op 1 0 := hw5
      have hP : va_P D vwCl [(pB, .inl (k.1, 65536, .inl B)), (h0, .inr (9, [.ref pP, .ref pO, .int th_3, .int sz, .ref pB, .ref pS, .ref pK, .int op, .int rw, .int bg, .int lo, .int cd, .int wd, .int rm, .int rg, .int rr, .int pl, .int lm, .int nx, .long av, .int sp, .int le, .int la]))] H := hP
      have hD : va_D A [(pB, .inl (k.1, 65536, .inl B)), (h0, .inr (9, [.ref pP, .ref pO, .int th_3, .int sz, .ref pB, .ref pS, .ref pK, .int op, .int rw, .int bg, .int lo, .int cd, .int wd, .int rm, .int rg, .int rr, .int pl, .int lm, .int nx, .long av, .int sp, .int le, .int la]))] := hD
      refine lv_if_eq (tgt := 56) hx hb d_Mdl_read_52 (by decide) (fun c7 => ?_) (fun c7 => ?_)
      · exact absurd (mth_0 (mtb_0 (hw5.1 ▸ c7))).2.1 (by decide)
      · have hc9 : mrx op y v sz = mth op 1 0 := by simp [mrx, mrt, c1]
        have hq9 := mtb_n (hw5.1 ▸ c7)
        rw [← hc9] at hq9
        exact krv (wo := wo_M_read k h0 pB pP pO pS pK th sz op rw bg lo cd wd rm rg rr pl lm nx av sp le la B L x y v) hx hb hr hlk hP hD hS (th_3, rg, rr, pl, lm, nx, av, sp, le, la) () ⟨by rw [hc9]; exact hw5.2, fun h => absurd h hq9, fun _ => ⟨rfl, rfl, rfl, rfl, rfl, rfl, rfl, rfl, rfl⟩⟩ trivial [1, 0] rfl (by decide) (Nat.le_of_ble_eq_true rfl) (Nat.le_of_ble_eq_true rfl) d_Mdl_read_55
  · refine lv_iload_n hx hb d_Mdl_read_4 rfl (lv_at hl 3 rfl) ?_
    refine lv_if_lt (tgt := 30) hx hb d_Mdl_read_5 (by decide) (fun c8 => ?_) (fun c8 => ?_)
    · refine lv_iconst (v := 0) hx hb d_Mdl_read_30 (by decide) ?_
      refine lv_istore (lv' := [(4, .int 0), (0, .ref h0), (1, .int x), (2, .int y), (3, .int v)]) hx hb d_Mdl_read_31 hl (by decide) rfl (fun ls hl => ?_)
      refine lv_aload_n hx hb d_Mdl_read_33 rfl (lv_at hl 1 rfl) ?_
      refine lv_aload_n hx hb d_Mdl_read_34 rfl (lv_at hl 1 rfl) ?_
      refine va_get (D := D) (ci := 9) (v := .int op) (C := R_Mdl) (T := T_Mdl) (N := 23) hx hb hts inw_Mdl hown hK hP 0 rfl rfl 7 (by decide) (hts (.fieldLink R_Mdl 33 "LikelyBitsModel" "open" "Z") mw_325) (fun _ h9 => h9) rfl d_Mdl_read_35 ?_
      refine lv_iload hx hb d_Mdl_read_38 (lv_at hl 0 rfl) ?_
      refine lv_if_ne (tgt := 47) hx hb d_Mdl_read_40 (by decide) (fun c9 => ?_) (fun c9 => ?_)
      · exact absurd rfl c9
      · refine lv_iconst (v := 1) hx hb d_Mdl_read_43 (by decide) ?_
        refine lv_goto (tgt := 48) hx hb d_Mdl_read_44 (by decide) ?_
        refine lv_iconst (v := 0) hx hb d_Mdl_read_48 (by decide) ?_
        refine kci (wc := [(h0, .inr (9, [.ref pP, .ref pO, .int th, .int sz, .ref pB, .ref pS, .ref pK, .int op, .int rw, .int bg, .int lo, .int cd, .int wd, .int rm, .int rg, .int rr, .int pl, .int lm, .int nx, .long av, .int sp, .int le, .int la]))]) (wr := [(pB, .inl (k.1, 65536, .inl B))]) (va_runV (As := [.int op, .int 1, .int 0]) (rest := []) ⟨hx, hb, hml, hown, hts⟩ (c_M_throwing l hl9 D k h0 H.size pP pO pB pS pK th sz op rw bg lo cd wd rm rg rr pl lm nx av sp le la op 1 0 ) (cwV 3 hts (gV mw_372 mw_373 mw_374 mw_331 mw_375) rfl rfl rfl (by decide +kernel) ⟨(Nat.le_of_ble_eq_true rfl), (Nat.le_of_ble_eq_true rfl)⟩) (kRecv (q := (R_Mdl, T_Mdl, 23)) (q0 := 0) (ci := 9) hK hP rfl rfl (kPre (wc := [(h0, .inr (9, [.ref pP, .ref pO, .int th, .int sz, .ref pB, .ref pS, .ref pK, .int op, .int rw, .int bg, .int lo, .int cd, .int wd, .int rm, .int rg, .int rr, .int pl, .int lm, .int nx, .long av, .int sp, .int le, .int la]))]) hE hK hP hD hS hA [0] rfl (by decide))) rfl rfl hl.1 rfl (lv_room (Nat.le_of_ble_eq_true rfl)) d_Mdl_read_49 ⟨(Nat.le_of_ble_eq_true rfl), (Nat.le_of_ble_eq_true rfl)⟩) hP hD hS hA [0] [1] rfl rfl (by decide) (by decide) (fun r11 zz uu H locs hw12 hz13 hP hD hS => ?_)
        obtain ⟨th_10, rfl⟩ : ∃ y, y = uu := ⟨_, rfl⟩
        have hw12 : r11 = mtb op 1 0 ∧ th_10 = mth op 1 0 := hw12
        have hP : va_P D vwCl [(pB, .inl (k.1, 65536, .inl B)), (h0, .inr (9, [.ref pP, .ref pO, .int th_10, .int sz, .ref pB, .ref pS, .ref pK, .int op, .int rw, .int bg, .int lo, .int cd, .int wd, .int rm, .int rg, .int rr, .int pl, .int lm, .int nx, .long av, .int sp, .int le, .int la]))] H := hP
        have hD : va_D A [(pB, .inl (k.1, 65536, .inl B)), (h0, .inr (9, [.ref pP, .ref pO, .int th_10, .int sz, .ref pB, .ref pS, .ref pK, .int op, .int rw, .int bg, .int lo, .int cd, .int wd, .int rm, .int rg, .int rr, .int pl, .int lm, .int nx, .long av, .int sp, .int le, .int la]))] := hD
        refine lv_if_eq (tgt := 56) hx hb d_Mdl_read_52 (by decide) (fun c14 => ?_) (fun c14 => ?_)
        · exact absurd (mth_0 (mtb_0 (hw12.1 ▸ c14))).2.1 (by decide)
        · have hc9 : mrx op y v sz = mth op 1 0 := by simp [mrx, mrt, c1, c8]
          have hq9 := mtb_n (hw12.1 ▸ c14)
          rw [← hc9] at hq9
          exact krv (wo := wo_M_read k h0 pB pP pO pS pK th sz op rw bg lo cd wd rm rg rr pl lm nx av sp le la B L x y v) hx hb hr hlk hP hD hS (th_10, rg, rr, pl, lm, nx, av, sp, le, la) () ⟨by rw [hc9]; exact hw12.2, fun h => absurd h hq9, fun _ => ⟨rfl, rfl, rfl, rfl, rfl, rfl, rfl, rfl, rfl⟩⟩ trivial [1, 0] rfl (by decide) (Nat.le_of_ble_eq_true rfl) (Nat.le_of_ble_eq_true rfl) d_Mdl_read_55
    · refine lv_iload_n hx hb d_Mdl_read_8 rfl (lv_at hl 2 rfl) ?_
      refine lv_aload_n hx hb d_Mdl_read_9 rfl (lv_at hl 0 rfl) ?_
      refine va_get (D := D) (ci := 9) (v := .int sz) (C := R_Mdl) (T := T_Mdl) (N := 23) hx hb hts inw_Mdl hown hK hP 0 rfl rfl 3 (by decide) (hts (.fieldLink R_Mdl 30 "LikelyBitsModel" "size" "I") mw_324) (fun _ h9 => h9) rfl d_Mdl_read_10 ?_
      refine lv_icmp_gt (tgt := 30) hx hb d_Mdl_read_13 (by decide) (fun c15 => ?_) (fun c15 => ?_)
      · refine lv_iconst (v := 0) hx hb d_Mdl_read_30 (by decide) ?_
        refine lv_istore (lv' := [(4, .int 0), (0, .ref h0), (1, .int x), (2, .int y), (3, .int v)]) hx hb d_Mdl_read_31 hl (by decide) rfl (fun ls hl => ?_)
        refine lv_aload_n hx hb d_Mdl_read_33 rfl (lv_at hl 1 rfl) ?_
        refine lv_aload_n hx hb d_Mdl_read_34 rfl (lv_at hl 1 rfl) ?_
        refine va_get (D := D) (ci := 9) (v := .int op) (C := R_Mdl) (T := T_Mdl) (N := 23) hx hb hts inw_Mdl hown hK hP 0 rfl rfl 7 (by decide) (hts (.fieldLink R_Mdl 33 "LikelyBitsModel" "open" "Z") mw_325) (fun _ h9 => h9) rfl d_Mdl_read_35 ?_
        refine lv_iload hx hb d_Mdl_read_38 (lv_at hl 0 rfl) ?_
        refine lv_if_ne (tgt := 47) hx hb d_Mdl_read_40 (by decide) (fun c16 => ?_) (fun c16 => ?_)
        · exact absurd rfl c16
        · refine lv_iconst (v := 1) hx hb d_Mdl_read_43 (by decide) ?_
          refine lv_goto (tgt := 48) hx hb d_Mdl_read_44 (by decide) ?_
          refine lv_iconst (v := 0) hx hb d_Mdl_read_48 (by decide) ?_
          refine kci (wc := [(h0, .inr (9, [.ref pP, .ref pO, .int th, .int sz, .ref pB, .ref pS, .ref pK, .int op, .int rw, .int bg, .int lo, .int cd, .int wd, .int rm, .int rg, .int rr, .int pl, .int lm, .int nx, .long av, .int sp, .int le, .int la]))]) (wr := [(pB, .inl (k.1, 65536, .inl B))]) (va_runV (As := [.int op, .int 1, .int 0]) (rest := []) ⟨hx, hb, hml, hown, hts⟩ (c_M_throwing l hl9 D k h0 H.size pP pO pB pS pK th sz op rw bg lo cd wd rm rg rr pl lm nx av sp le la op 1 0 ) (cwV 3 hts (gV mw_372 mw_373 mw_374 mw_331 mw_375) rfl rfl rfl (by decide +kernel) ⟨(Nat.le_of_ble_eq_true rfl), (Nat.le_of_ble_eq_true rfl)⟩) (kRecv (q := (R_Mdl, T_Mdl, 23)) (q0 := 0) (ci := 9) hK hP rfl rfl (kPre (wc := [(h0, .inr (9, [.ref pP, .ref pO, .int th, .int sz, .ref pB, .ref pS, .ref pK, .int op, .int rw, .int bg, .int lo, .int cd, .int wd, .int rm, .int rg, .int rr, .int pl, .int lm, .int nx, .long av, .int sp, .int le, .int la]))]) hE hK hP hD hS hA [0] rfl (by decide))) rfl rfl hl.1 rfl (lv_room (Nat.le_of_ble_eq_true rfl)) d_Mdl_read_49 ⟨(Nat.le_of_ble_eq_true rfl), (Nat.le_of_ble_eq_true rfl)⟩) hP hD hS hA [0] [1] rfl rfl (by decide) (by decide) (fun r18 zz uu H locs hw19 hz20 hP hD hS => ?_)
          obtain ⟨th_17, rfl⟩ : ∃ y, y = uu := ⟨_, rfl⟩
          have hw19 : r18 = mtb op 1 0 ∧ th_17 = mth op 1 0 := hw19
          have hP : va_P D vwCl [(pB, .inl (k.1, 65536, .inl B)), (h0, .inr (9, [.ref pP, .ref pO, .int th_17, .int sz, .ref pB, .ref pS, .ref pK, .int op, .int rw, .int bg, .int lo, .int cd, .int wd, .int rm, .int rg, .int rr, .int pl, .int lm, .int nx, .long av, .int sp, .int le, .int la]))] H := hP
          have hD : va_D A [(pB, .inl (k.1, 65536, .inl B)), (h0, .inr (9, [.ref pP, .ref pO, .int th_17, .int sz, .ref pB, .ref pS, .ref pK, .int op, .int rw, .int bg, .int lo, .int cd, .int wd, .int rm, .int rg, .int rr, .int pl, .int lm, .int nx, .long av, .int sp, .int le, .int la]))] := hD
          refine lv_if_eq (tgt := 56) hx hb d_Mdl_read_52 (by decide) (fun c21 => ?_) (fun c21 => ?_)
          · exact absurd (mth_0 (mtb_0 (hw19.1 ▸ c21))).2.1 (by decide)
          · have hc9 : mrx op y v sz = mth op 1 0 := by simp [mrx, mrt, c1, c8, c15]
            have hq9 := mtb_n (hw19.1 ▸ c21)
            rw [← hc9] at hq9
            exact krv (wo := wo_M_read k h0 pB pP pO pS pK th sz op rw bg lo cd wd rm rg rr pl lm nx av sp le la B L x y v) hx hb hr hlk hP hD hS (th_17, rg, rr, pl, lm, nx, av, sp, le, la) () ⟨by rw [hc9]; exact hw19.2, fun h => absurd h hq9, fun _ => ⟨rfl, rfl, rfl, rfl, rfl, rfl, rfl, rfl, rfl⟩⟩ trivial [1, 0] rfl (by decide) (Nat.le_of_ble_eq_true rfl) (Nat.le_of_ble_eq_true rfl) d_Mdl_read_55
      · refine lv_iload_n hx hb d_Mdl_read_16 rfl (lv_at hl 3 rfl) ?_
        refine lv_aload_n hx hb d_Mdl_read_17 rfl (lv_at hl 0 rfl) ?_
        refine va_get (D := D) (ci := 9) (v := .int sz) (C := R_Mdl) (T := T_Mdl) (N := 23) hx hb hts inw_Mdl hown hK hP 0 rfl rfl 3 (by decide) (hts (.fieldLink R_Mdl 30 "LikelyBitsModel" "size" "I") mw_324) (fun _ h9 => h9) rfl d_Mdl_read_18 ?_
        refine lv_iload_n hx hb d_Mdl_read_21 rfl (lv_at hl 2 rfl) ?_
        refine lv_isub hx hb d_Mdl_read_22 ?_
        refine lv_icmp_gt (tgt := 30) hx hb d_Mdl_read_23 (by decide) (fun c22 => ?_) (fun c22 => ?_)
        · refine lv_iconst (v := 0) hx hb d_Mdl_read_30 (by decide) ?_
          refine lv_istore (lv' := [(4, .int 0), (0, .ref h0), (1, .int x), (2, .int y), (3, .int v)]) hx hb d_Mdl_read_31 hl (by decide) rfl (fun ls hl => ?_)
          refine lv_aload_n hx hb d_Mdl_read_33 rfl (lv_at hl 1 rfl) ?_
          refine lv_aload_n hx hb d_Mdl_read_34 rfl (lv_at hl 1 rfl) ?_
          refine va_get (D := D) (ci := 9) (v := .int op) (C := R_Mdl) (T := T_Mdl) (N := 23) hx hb hts inw_Mdl hown hK hP 0 rfl rfl 7 (by decide) (hts (.fieldLink R_Mdl 33 "LikelyBitsModel" "open" "Z") mw_325) (fun _ h9 => h9) rfl d_Mdl_read_35 ?_
          refine lv_iload hx hb d_Mdl_read_38 (lv_at hl 0 rfl) ?_
          refine lv_if_ne (tgt := 47) hx hb d_Mdl_read_40 (by decide) (fun c23 => ?_) (fun c23 => ?_)
          · exact absurd rfl c23
          · refine lv_iconst (v := 1) hx hb d_Mdl_read_43 (by decide) ?_
            refine lv_goto (tgt := 48) hx hb d_Mdl_read_44 (by decide) ?_
            refine lv_iconst (v := 0) hx hb d_Mdl_read_48 (by decide) ?_
            refine kci (wc := [(h0, .inr (9, [.ref pP, .ref pO, .int th, .int sz, .ref pB, .ref pS, .ref pK, .int op, .int rw, .int bg, .int lo, .int cd, .int wd, .int rm, .int rg, .int rr, .int pl, .int lm, .int nx, .long av, .int sp, .int le, .int la]))]) (wr := [(pB, .inl (k.1, 65536, .inl B))]) (va_runV (As := [.int op, .int 1, .int 0]) (rest := []) ⟨hx, hb, hml, hown, hts⟩ (c_M_throwing l hl9 D k h0 H.size pP pO pB pS pK th sz op rw bg lo cd wd rm rg rr pl lm nx av sp le la op 1 0 ) (cwV 3 hts (gV mw_372 mw_373 mw_374 mw_331 mw_375) rfl rfl rfl (by decide +kernel) ⟨(Nat.le_of_ble_eq_true rfl), (Nat.le_of_ble_eq_true rfl)⟩) (kRecv (q := (R_Mdl, T_Mdl, 23)) (q0 := 0) (ci := 9) hK hP rfl rfl (kPre (wc := [(h0, .inr (9, [.ref pP, .ref pO, .int th, .int sz, .ref pB, .ref pS, .ref pK, .int op, .int rw, .int bg, .int lo, .int cd, .int wd, .int rm, .int rg, .int rr, .int pl, .int lm, .int nx, .long av, .int sp, .int le, .int la]))]) hE hK hP hD hS hA [0] rfl (by decide))) rfl rfl hl.1 rfl (lv_room (Nat.le_of_ble_eq_true rfl)) d_Mdl_read_49 ⟨(Nat.le_of_ble_eq_true rfl), (Nat.le_of_ble_eq_true rfl)⟩) hP hD hS hA [0] [1] rfl rfl (by decide) (by decide) (fun r25 zz uu H locs hw26 hz27 hP hD hS => ?_)
            obtain ⟨th_24, rfl⟩ : ∃ y, y = uu := ⟨_, rfl⟩
            have hw26 : r25 = mtb op 1 0 ∧ th_24 = mth op 1 0 := hw26
            have hP : va_P D vwCl [(pB, .inl (k.1, 65536, .inl B)), (h0, .inr (9, [.ref pP, .ref pO, .int th_24, .int sz, .ref pB, .ref pS, .ref pK, .int op, .int rw, .int bg, .int lo, .int cd, .int wd, .int rm, .int rg, .int rr, .int pl, .int lm, .int nx, .long av, .int sp, .int le, .int la]))] H := hP
            have hD : va_D A [(pB, .inl (k.1, 65536, .inl B)), (h0, .inr (9, [.ref pP, .ref pO, .int th_24, .int sz, .ref pB, .ref pS, .ref pK, .int op, .int rw, .int bg, .int lo, .int cd, .int wd, .int rm, .int rg, .int rr, .int pl, .int lm, .int nx, .long av, .int sp, .int le, .int la]))] := hD
            refine lv_if_eq (tgt := 56) hx hb d_Mdl_read_52 (by decide) (fun c28 => ?_) (fun c28 => ?_)
            · exact absurd (mth_0 (mtb_0 (hw26.1 ▸ c28))).2.1 (by decide)
            · have hc9 : mrx op y v sz = mth op 1 0 := by simp [mrx, mrt, c1, c8, c15, c22]
              have hq9 := mtb_n (hw26.1 ▸ c28)
              rw [← hc9] at hq9
              exact krv (wo := wo_M_read k h0 pB pP pO pS pK th sz op rw bg lo cd wd rm rg rr pl lm nx av sp le la B L x y v) hx hb hr hlk hP hD hS (th_24, rg, rr, pl, lm, nx, av, sp, le, la) () ⟨by rw [hc9]; exact hw26.2, fun h => absurd h hq9, fun _ => ⟨rfl, rfl, rfl, rfl, rfl, rfl, rfl, rfl, rfl⟩⟩ trivial [1, 0] rfl (by decide) (Nat.le_of_ble_eq_true rfl) (Nat.le_of_ble_eq_true rfl) d_Mdl_read_55
        · refine lv_iconst (v := 1) hx hb d_Mdl_read_26 (by decide) ?_
          refine lv_goto (tgt := 31) hx hb d_Mdl_read_27 (by decide) ?_
          refine lv_istore (lv' := [(4, .int 1), (0, .ref h0), (1, .int x), (2, .int y), (3, .int v)]) hx hb d_Mdl_read_31 hl (by decide) rfl (fun ls hl => ?_)
          refine lv_aload_n hx hb d_Mdl_read_33 rfl (lv_at hl 1 rfl) ?_
          refine lv_aload_n hx hb d_Mdl_read_34 rfl (lv_at hl 1 rfl) ?_
          refine va_get (D := D) (ci := 9) (v := .int op) (C := R_Mdl) (T := T_Mdl) (N := 23) hx hb hts inw_Mdl hown hK hP 0 rfl rfl 7 (by decide) (hts (.fieldLink R_Mdl 33 "LikelyBitsModel" "open" "Z") mw_325) (fun _ h9 => h9) rfl d_Mdl_read_35 ?_
          refine lv_iload hx hb d_Mdl_read_38 (lv_at hl 0 rfl) ?_
          refine lv_if_ne (tgt := 47) hx hb d_Mdl_read_40 (by decide) (fun c29 => ?_) (fun c29 => ?_)
          · refine lv_iconst (v := 0) hx hb d_Mdl_read_47 (by decide) ?_
            refine lv_iconst (v := 0) hx hb d_Mdl_read_48 (by decide) ?_
            refine kci (wc := [(h0, .inr (9, [.ref pP, .ref pO, .int th, .int sz, .ref pB, .ref pS, .ref pK, .int op, .int rw, .int bg, .int lo, .int cd, .int wd, .int rm, .int rg, .int rr, .int pl, .int lm, .int nx, .long av, .int sp, .int le, .int la]))]) (wr := [(pB, .inl (k.1, 65536, .inl B))]) (va_runV (As := [.int op, .int 0, .int 0]) (rest := []) ⟨hx, hb, hml, hown, hts⟩ (c_M_throwing l hl9 D k h0 H.size pP pO pB pS pK th sz op rw bg lo cd wd rm rg rr pl lm nx av sp le la op 0 0 ) (cwV 3 hts (gV mw_372 mw_373 mw_374 mw_331 mw_375) rfl rfl rfl (by decide +kernel) ⟨(Nat.le_of_ble_eq_true rfl), (Nat.le_of_ble_eq_true rfl)⟩) (kRecv (q := (R_Mdl, T_Mdl, 23)) (q0 := 0) (ci := 9) hK hP rfl rfl (kPre (wc := [(h0, .inr (9, [.ref pP, .ref pO, .int th, .int sz, .ref pB, .ref pS, .ref pK, .int op, .int rw, .int bg, .int lo, .int cd, .int wd, .int rm, .int rg, .int rr, .int pl, .int lm, .int nx, .long av, .int sp, .int le, .int la]))]) hE hK hP hD hS hA [0] rfl (by decide))) rfl rfl hl.1 rfl (lv_room (Nat.le_of_ble_eq_true rfl)) d_Mdl_read_49 ⟨(Nat.le_of_ble_eq_true rfl), (Nat.le_of_ble_eq_true rfl)⟩) hP hD hS hA [0] [1] rfl rfl (by decide) (by decide) (fun r31 zz uu H locs hw32 hz33 hP hD hS => ?_)
            obtain ⟨th_30, rfl⟩ : ∃ y, y = uu := ⟨_, rfl⟩
            have hw32 : r31 = mtb op 0 0 ∧ th_30 = mth op 0 0 := hw32
            have hP : va_P D vwCl [(pB, .inl (k.1, 65536, .inl B)), (h0, .inr (9, [.ref pP, .ref pO, .int th_30, .int sz, .ref pB, .ref pS, .ref pK, .int op, .int rw, .int bg, .int lo, .int cd, .int wd, .int rm, .int rg, .int rr, .int pl, .int lm, .int nx, .long av, .int sp, .int le, .int la]))] H := hP
            have hD : va_D A [(pB, .inl (k.1, 65536, .inl B)), (h0, .inr (9, [.ref pP, .ref pO, .int th_30, .int sz, .ref pB, .ref pS, .ref pK, .int op, .int rw, .int bg, .int lo, .int cd, .int wd, .int rm, .int rg, .int rr, .int pl, .int lm, .int nx, .long av, .int sp, .int le, .int la]))] := hD
            refine lv_if_eq (tgt := 56) hx hb d_Mdl_read_52 (by decide) (fun c34 => ?_) (fun c34 => ?_)
            · have hc9 : mrx op y v sz = mth op 0 0 := by simp [mrx, mrt, c1, c8, c15, c22]
              have hq9 := mtb_0 (hw32.1 ▸ c34)
              rw [← hc9] at hq9
              have hrd := rd_mk hM c1 c8 c15 c22
              have hz0 : ¬ (0 : Int32) < 0 := by decide
              have hz1 : ¬ (1 : Int32) < 0 := by decide
              refine lv_aload_n hx hb d_Mdl_read_56 rfl (lv_at hl 1 rfl) ?_
              refine lv_iconst (v := 1) hx hb d_Mdl_read_57 (by decide) ?_
              refine va_put (D := D) (ci := 9) (v := .int 1) (ty := .boolean) (C := R_Mdl) (T := T_Mdl) (N := 23) hx hb hts inw_Mdl ty_Mdl tyok_Mdl nm_Mdl hown hK hP hD hS 1 rfl rfl 14 (by decide) (hts (.fieldLink R_Mdl 37 "LikelyBitsModel" "reading" "Z") mw_326) (fun _ h9 => h9) rfl (by decide +kernel) rfl rfl (Nat.le_of_ble_eq_true rfl) d_Mdl_read_58 (fun H locs hP hD hS => ?_)
              have hP : va_P D vwCl [(pB, .inl (k.1, 65536, .inl B)), (h0, .inr (9, [.ref pP, .ref pO, .int th_30, .int sz, .ref pB, .ref pS, .ref pK, .int op, .int rw, .int bg, .int lo, .int cd, .int wd, .int rm, .int 1, .int rr, .int pl, .int lm, .int nx, .long av, .int sp, .int le, .int la]))] H := hP
              have hD : va_D A [(pB, .inl (k.1, 65536, .inl B)), (h0, .inr (9, [.ref pP, .ref pO, .int th_30, .int sz, .ref pB, .ref pS, .ref pK, .int op, .int rw, .int bg, .int lo, .int cd, .int wd, .int rm, .int 1, .int rr, .int pl, .int lm, .int nx, .long av, .int sp, .int le, .int la]))] := hD
              refine lv_aload_n hx hb d_Mdl_read_61 rfl (lv_at hl 1 rfl) ?_
              refine lv_iload_n hx hb d_Mdl_read_62 rfl (lv_at hl 2 rfl) ?_
              refine va_put (D := D) (ci := 9) (v := .int x) (ty := .boolean) (C := R_Mdl) (T := T_Mdl) (N := 23) hx hb hts inw_Mdl ty_Mdl tyok_Mdl nm_Mdl hown hK hP hD hS 1 rfl rfl 15 (by decide) (hts (.fieldLink R_Mdl 114 "LikelyBitsModel" "rawRead" "Z") mw_379) (fun _ h9 => h9) rfl (by decide +kernel) (bz_n hx01) (bz_f hx01) (Nat.le_of_ble_eq_true rfl) d_Mdl_read_63 (fun H locs hP hD hS => ?_)
              have hP : va_P D vwCl [(pB, .inl (k.1, 65536, .inl B)), (h0, .inr (9, [.ref pP, .ref pO, .int th_30, .int sz, .ref pB, .ref pS, .ref pK, .int op, .int rw, .int bg, .int lo, .int cd, .int wd, .int rm, .int 1, .int x, .int pl, .int lm, .int nx, .long av, .int sp, .int le, .int la]))] H := hP
              have hD : va_D A [(pB, .inl (k.1, 65536, .inl B)), (h0, .inr (9, [.ref pP, .ref pO, .int th_30, .int sz, .ref pB, .ref pS, .ref pK, .int op, .int rw, .int bg, .int lo, .int cd, .int wd, .int rm, .int 1, .int x, .int pl, .int lm, .int nx, .long av, .int sp, .int le, .int la]))] := hD
              refine lv_aload_n hx hb d_Mdl_read_66 rfl (lv_at hl 1 rfl) ?_
              refine lv_iload_n hx hb d_Mdl_read_67 rfl (lv_at hl 3 rfl) ?_
              refine va_put (D := D) (ci := 9) (v := .int y) (ty := .int) (C := R_Mdl) (T := T_Mdl) (N := 23) hx hb hts inw_Mdl ty_Mdl tyok_Mdl nm_Mdl hown hK hP hD hS 1 rfl rfl 16 (by decide) (hts (.fieldLink R_Mdl 111 "LikelyBitsModel" "place" "I") mw_356) (fun _ h9 => h9) rfl (by decide +kernel) rfl rfl (Nat.le_of_ble_eq_true rfl) d_Mdl_read_68 (fun H locs hP hD hS => ?_)
              have hP : va_P D vwCl [(pB, .inl (k.1, 65536, .inl B)), (h0, .inr (9, [.ref pP, .ref pO, .int th_30, .int sz, .ref pB, .ref pS, .ref pK, .int op, .int rw, .int bg, .int lo, .int cd, .int wd, .int rm, .int 1, .int x, .int y, .int lm, .int nx, .long av, .int sp, .int le, .int la]))] H := hP
              have hD : va_D A [(pB, .inl (k.1, 65536, .inl B)), (h0, .inr (9, [.ref pP, .ref pO, .int th_30, .int sz, .ref pB, .ref pS, .ref pK, .int op, .int rw, .int bg, .int lo, .int cd, .int wd, .int rm, .int 1, .int x, .int y, .int lm, .int nx, .long av, .int sp, .int le, .int la]))] := hD
              refine lv_aload_n hx hb d_Mdl_read_71 rfl (lv_at hl 1 rfl) ?_
              refine lv_iload_n hx hb d_Mdl_read_72 rfl (lv_at hl 4 rfl) ?_
              refine va_put (D := D) (ci := 9) (v := .int v) (ty := .int) (C := R_Mdl) (T := T_Mdl) (N := 23) hx hb hts inw_Mdl ty_Mdl tyok_Mdl nm_Mdl hown hK hP hD hS 1 rfl rfl 17 (by decide) (hts (.fieldLink R_Mdl 108 "LikelyBitsModel" "limit" "I") mw_355) (fun _ h9 => h9) rfl (by decide +kernel) rfl rfl (Nat.le_of_ble_eq_true rfl) d_Mdl_read_73 (fun H locs hP hD hS => ?_)
              have hP : va_P D vwCl [(pB, .inl (k.1, 65536, .inl B)), (h0, .inr (9, [.ref pP, .ref pO, .int th_30, .int sz, .ref pB, .ref pS, .ref pK, .int op, .int rw, .int bg, .int lo, .int cd, .int wd, .int rm, .int 1, .int x, .int y, .int v, .int nx, .long av, .int sp, .int le, .int la]))] H := hP
              have hD : va_D A [(pB, .inl (k.1, 65536, .inl B)), (h0, .inr (9, [.ref pP, .ref pO, .int th_30, .int sz, .ref pB, .ref pS, .ref pK, .int op, .int rw, .int bg, .int lo, .int cd, .int wd, .int rm, .int 1, .int x, .int y, .int v, .int nx, .long av, .int sp, .int le, .int la]))] := hD
              refine lv_aload_n hx hb d_Mdl_read_76 rfl (lv_at hl 1 rfl) ?_
              refine lv_iconst (v := 0) hx hb d_Mdl_read_77 (by decide) ?_
              refine va_put (D := D) (ci := 9) (v := .int 0) (ty := .int) (C := R_Mdl) (T := T_Mdl) (N := 23) hx hb hts inw_Mdl ty_Mdl tyok_Mdl nm_Mdl hown hK hP hD hS 1 rfl rfl 18 (by decide) (hts (.fieldLink R_Mdl 117 "LikelyBitsModel" "next" "I") mw_359) (fun _ h9 => h9) rfl (by decide +kernel) rfl rfl (Nat.le_of_ble_eq_true rfl) d_Mdl_read_78 (fun H locs hP hD hS => ?_)
              have hP : va_P D vwCl [(pB, .inl (k.1, 65536, .inl B)), (h0, .inr (9, [.ref pP, .ref pO, .int th_30, .int sz, .ref pB, .ref pS, .ref pK, .int op, .int rw, .int bg, .int lo, .int cd, .int wd, .int rm, .int 1, .int x, .int y, .int v, .int 0, .long av, .int sp, .int le, .int la]))] H := hP
              have hD : va_D A [(pB, .inl (k.1, 65536, .inl B)), (h0, .inr (9, [.ref pP, .ref pO, .int th_30, .int sz, .ref pB, .ref pS, .ref pK, .int op, .int rw, .int bg, .int lo, .int cd, .int wd, .int rm, .int 1, .int x, .int y, .int v, .int 0, .long av, .int sp, .int le, .int la]))] := hD
              refine lv_aload_n hx hb d_Mdl_read_81 rfl (lv_at hl 1 rfl) ?_
              refine lv_iconst (v := 0) hx hb d_Mdl_read_82 (by decide) ?_
              refine va_put (D := D) (ci := 9) (v := .int 0) (ty := .int) (C := R_Mdl) (T := T_Mdl) (N := 23) hx hb hts inw_Mdl ty_Mdl tyok_Mdl nm_Mdl hown hK hP hD hS 1 rfl rfl 21 (by decide) (hts (.fieldLink R_Mdl 120 "LikelyBitsModel" "left" "I") mw_357) (fun _ h9 => h9) rfl (by decide +kernel) rfl rfl (Nat.le_of_ble_eq_true rfl) d_Mdl_read_83 (fun H locs hP hD hS => ?_)
              have hP : va_P D vwCl [(pB, .inl (k.1, 65536, .inl B)), (h0, .inr (9, [.ref pP, .ref pO, .int th_30, .int sz, .ref pB, .ref pS, .ref pK, .int op, .int rw, .int bg, .int lo, .int cd, .int wd, .int rm, .int 1, .int x, .int y, .int v, .int 0, .long av, .int sp, .int 0, .int la]))] H := hP
              have hD : va_D A [(pB, .inl (k.1, 65536, .inl B)), (h0, .inr (9, [.ref pP, .ref pO, .int th_30, .int sz, .ref pB, .ref pS, .ref pK, .int op, .int rw, .int bg, .int lo, .int cd, .int wd, .int rm, .int 1, .int x, .int y, .int v, .int 0, .long av, .int sp, .int 0, .int la]))] := hD
              refine lv_aload_n hx hb d_Mdl_read_86 rfl (lv_at hl 1 rfl) ?_
              refine lv_iconst (v := 0) hx hb d_Mdl_read_87 (by decide) ?_
              refine va_put (D := D) (ci := 9) (v := .int 0) (ty := .int) (C := R_Mdl) (T := T_Mdl) (N := 23) hx hb hts inw_Mdl ty_Mdl tyok_Mdl nm_Mdl hown hK hP hD hS 1 rfl rfl 22 (by decide) (hts (.fieldLink R_Mdl 123 "LikelyBitsModel" "last" "I") mw_358) (fun _ h9 => h9) rfl (by decide +kernel) rfl rfl (Nat.le_of_ble_eq_true rfl) d_Mdl_read_88 (fun H locs hP hD hS => ?_)
              have hP : va_P D vwCl [(pB, .inl (k.1, 65536, .inl B)), (h0, .inr (9, [.ref pP, .ref pO, .int th_30, .int sz, .ref pB, .ref pS, .ref pK, .int op, .int rw, .int bg, .int lo, .int cd, .int wd, .int rm, .int 1, .int x, .int y, .int v, .int 0, .long av, .int sp, .int 0, .int 0]))] H := hP
              have hD : va_D A [(pB, .inl (k.1, 65536, .inl B)), (h0, .inr (9, [.ref pP, .ref pO, .int th_30, .int sz, .ref pB, .ref pS, .ref pK, .int op, .int rw, .int bg, .int lo, .int cd, .int wd, .int rm, .int 1, .int x, .int y, .int v, .int 0, .long av, .int sp, .int 0, .int 0]))] := hD
              refine lv_aload_n hx hb d_Mdl_read_91 rfl (lv_at hl 1 rfl) ?_
              refine va_get (D := D) (ci := 9) (v := .int x) (C := R_Mdl) (T := T_Mdl) (N := 23) hx hb hts inw_Mdl hown hK hP 1 rfl rfl 15 (by decide) (hts (.fieldLink R_Mdl 114 "LikelyBitsModel" "rawRead" "Z") mw_379) (fun _ h9 => h9) rfl d_Mdl_read_92 ?_
              refine lv_if_eq (tgt := 99) hx hb d_Mdl_read_95 (by decide) (fun c35 => ?_) (fun c35 => ?_)
              · refine lv_aload_n hx hb d_Mdl_read_99 rfl (lv_at hl 1 rfl) ?_
                refine lv_ldc (v := 32768) hx hb hown (hts (.constant R_Mdl 52 32768) mw_377) d_Mdl_read_100 ?_
                refine va_put (D := D) (ci := 9) (v := .int 32768) (ty := .int) (C := R_Mdl) (T := T_Mdl) (N := 23) hx hb hts inw_Mdl ty_Mdl tyok_Mdl nm_Mdl hown hK hP hD hS 1 rfl rfl 20 (by decide) (hts (.fieldLink R_Mdl 126 "LikelyBitsModel" "span" "I") mw_365) (fun _ h9 => h9) rfl (by decide +kernel) rfl rfl (Nat.le_of_ble_eq_true rfl) d_Mdl_read_102 (fun H locs hP hD hS => ?_)
                have hP : va_P D vwCl [(pB, .inl (k.1, 65536, .inl B)), (h0, .inr (9, [.ref pP, .ref pO, .int th_30, .int sz, .ref pB, .ref pS, .ref pK, .int op, .int rw, .int bg, .int lo, .int cd, .int wd, .int rm, .int 1, .int x, .int y, .int v, .int 0, .long av, .int 32768, .int 0, .int 0]))] H := hP
                have hD : va_D A [(pB, .inl (k.1, 65536, .inl B)), (h0, .inr (9, [.ref pP, .ref pO, .int th_30, .int sz, .ref pB, .ref pS, .ref pK, .int op, .int rw, .int bg, .int lo, .int cd, .int wd, .int rm, .int 1, .int x, .int y, .int v, .int 0, .long av, .int 32768, .int 0, .int 0]))] := hD
                refine lv_aload_n hx hb d_Mdl_read_105 rfl (lv_at hl 1 rfl) ?_
                refine lv_aload_n hx hb d_Mdl_read_106 rfl (lv_at hl 1 rfl) ?_
                refine lv_iconst (v := 0) hx hb d_Mdl_read_107 (by decide) ?_
                refine kqi (va_runV (As := [.int 0]) (rest := [.ref h0]) ⟨hx, hb, hml, hown, hts⟩ (c_M_byteAt l hl9 D k h0 pB pP pO pS pK th_30 sz op rw bg lo cd wd rm 1 x y v 0 av 32768 0 0 B L 0 (by assumption) (by assumption) (by assumption)) (cwV 1 hts (gV mw_360 mw_361 mw_362 mw_331 mw_363) rfl rfl rfl (by decide +kernel) ⟨(Nat.le_of_ble_eq_true rfl), (Nat.le_of_ble_eq_true rfl)⟩) (kRecv (q := (R_Mdl, T_Mdl, 23)) (q0 := 1) (ci := 9) hK hP rfl rfl (kPreR (wc := [(h0, .inr (9, [.ref pP, .ref pO, .int th_30, .int sz, .ref pB, .ref pS, .ref pK, .int op, .int rw, .int bg, .int lo, .int cd, .int wd, .int rm, .int 1, .int x, .int y, .int v, .int 0, .long av, .int 32768, .int 0, .int 0])), (pB, .inl (k.1, 65536, .inl B))]) hE hK hP hS [1, 0] rfl)) rfl rfl hl.1 rfl (lv_room (Nat.le_of_ble_eq_true rfl)) d_Mdl_read_108 ⟨(Nat.le_of_ble_eq_true rfl), (Nat.le_of_ble_eq_true rfl)⟩) hP hS (fun r36 H locs hw hP hS => ?_)
                replace hw := hw.symm
                subst hw
                refine lv_topi (fun x37 ex37 => ?_)
                refine va_put (D := D) (ci := 9) (v := .int x37) (ty := .int) (C := R_Mdl) (T := T_Mdl) (N := 23) hx hb hts inw_Mdl ty_Mdl tyok_Mdl nm_Mdl hown hK hP hD hS 1 rfl rfl 22 (by decide) (hts (.fieldLink R_Mdl 123 "LikelyBitsModel" "last" "I") mw_358) (fun _ h9 => h9) rfl (by decide +kernel) rfl rfl (Nat.le_of_ble_eq_true rfl) d_Mdl_read_111 (fun H locs hP hD hS => ?_)
                have hP : va_P D vwCl [(pB, .inl (k.1, 65536, .inl B)), (h0, .inr (9, [.ref pP, .ref pO, .int th_30, .int sz, .ref pB, .ref pS, .ref pK, .int op, .int rw, .int bg, .int lo, .int cd, .int wd, .int rm, .int 1, .int x, .int y, .int v, .int 0, .long av, .int 32768, .int 0, .int x37]))] H := hP
                have hD : va_D A [(pB, .inl (k.1, 65536, .inl B)), (h0, .inr (9, [.ref pP, .ref pO, .int th_30, .int sz, .ref pB, .ref pS, .ref pK, .int op, .int rw, .int bg, .int lo, .int cd, .int wd, .int rm, .int 1, .int x, .int y, .int v, .int 0, .long av, .int 32768, .int 0, .int x37]))] := hD
                refine lv_aload_n hx hb d_Mdl_read_114 rfl (lv_at hl 1 rfl) ?_
                refine lv_iconst (v := 1) hx hb d_Mdl_read_115 (by decide) ?_
                refine va_put (D := D) (ci := 9) (v := .int 1) (ty := .int) (C := R_Mdl) (T := T_Mdl) (N := 23) hx hb hts inw_Mdl ty_Mdl tyok_Mdl nm_Mdl hown hK hP hD hS 1 rfl rfl 18 (by decide) (hts (.fieldLink R_Mdl 117 "LikelyBitsModel" "next" "I") mw_359) (fun _ h9 => h9) rfl (by decide +kernel) rfl rfl (Nat.le_of_ble_eq_true rfl) d_Mdl_read_116 (fun H locs hP hD hS => ?_)
                have hP : va_P D vwCl [(pB, .inl (k.1, 65536, .inl B)), (h0, .inr (9, [.ref pP, .ref pO, .int th_30, .int sz, .ref pB, .ref pS, .ref pK, .int op, .int rw, .int bg, .int lo, .int cd, .int wd, .int rm, .int 1, .int x, .int y, .int v, .int 1, .long av, .int 32768, .int 0, .int x37]))] H := hP
                have hD : va_D A [(pB, .inl (k.1, 65536, .inl B)), (h0, .inr (9, [.ref pP, .ref pO, .int th_30, .int sz, .ref pB, .ref pS, .ref pK, .int op, .int rw, .int bg, .int lo, .int cd, .int wd, .int rm, .int 1, .int x, .int y, .int v, .int 1, .long av, .int 32768, .int 0, .int x37]))] := hD
                refine lv_aload_n hx hb d_Mdl_read_119 rfl (lv_at hl 1 rfl) ?_
                refine lv_ldc2 (v := 2147483647) hx hb hown (hts (.constantLong R_Mdl 132 2147483647) mw_424) d_Mdl_read_120 ?_
                refine va_put (D := D) (ci := 9) (v := .long 2147483647) (ty := .long) (C := R_Mdl) (T := T_Mdl) (N := 23) hx hb hts inw_Mdl ty_Mdl tyok_Mdl nm_Mdl hown hK hP hD hS 1 rfl rfl 19 (by decide) (hts (.fieldLink R_Mdl 134 "LikelyBitsModel" "above" "J") mw_366) (fun _ h9 => h9) rfl (by decide +kernel) rfl rfl (Nat.le_of_ble_eq_true rfl) d_Mdl_read_123 (fun H locs hP hD hS => ?_)
                have hP : va_P D vwCl [(pB, .inl (k.1, 65536, .inl B)), (h0, .inr (9, [.ref pP, .ref pO, .int th_30, .int sz, .ref pB, .ref pS, .ref pK, .int op, .int rw, .int bg, .int lo, .int cd, .int wd, .int rm, .int 1, .int x, .int y, .int v, .int 1, .long 2147483647, .int 32768, .int 0, .int x37]))] H := hP
                have hD : va_D A [(pB, .inl (k.1, 65536, .inl B)), (h0, .inr (9, [.ref pP, .ref pO, .int th_30, .int sz, .ref pB, .ref pS, .ref pK, .int op, .int rw, .int bg, .int lo, .int cd, .int wd, .int rm, .int 1, .int x, .int y, .int v, .int 1, .long 2147483647, .int 32768, .int 0, .int x37]))] := hD
                refine lv_aload_n hx hb d_Mdl_read_126 rfl (lv_at hl 1 rfl) ?_
                refine va_get (D := D) (ci := 9) (v := .int x37) (C := R_Mdl) (T := T_Mdl) (N := 23) hx hb hts inw_Mdl hown hK hP 1 rfl rfl 22 (by decide) (hts (.fieldLink R_Mdl 123 "LikelyBitsModel" "last" "I") mw_358) (fun _ h9 => h9) rfl d_Mdl_read_127 ?_
                refine lv_i2l (v := x37.toInt64) hx hb d_Mdl_read_130 rfl ?_
                refine lv_bipush (v := 16) hx hb d_Mdl_read_131 (by decide) ?_
                refine lv_lshl (v := x37.toInt64 <<< ((16 : Int32).toInt64 &&& 63)) hx hb d_Mdl_read_133 rfl ?_
                refine lv_topl (fun x38 ex38 => ?_)
                refine lv_lstore (lv' := [(5, .long x38), (4, .int 1), (0, .ref h0), (1, .int x), (2, .int y), (3, .int v)]) hx hb d_Mdl_read_134 hl (by decide) rfl (fun ls hl => ?_)
                refine lv_lload hx hb d_Mdl_read_136 (lv_at hl 0 rfl) ?_
                refine lv_aload_n hx hb d_Mdl_read_138 rfl (lv_at hl 2 rfl) ?_
                refine kci (wc := [(h0, .inr (9, [.ref pP, .ref pO, .int th_30, .int sz, .ref pB, .ref pS, .ref pK, .int op, .int rw, .int bg, .int lo, .int cd, .int wd, .int rm, .int 1, .int x, .int y, .int v, .int 1, .long 2147483647, .int 32768, .int 0, .int x37])), (pB, .inl (k.1, 65536, .inl B))]) (wr := []) (va_runV (As := []) (rest := [.long x38]) ⟨hx, hb, hml, hown, hts⟩ (c_M_comesIn l hl9 D k h0 pB H.size pP pO pS pK th_30 sz op rw bg lo cd wd rm 1 x y v 1 2147483647 32768 0 x37 B L (by assumption) (by assumption) (by assumption)) (cwV 0 hts (gV mw_398 mw_399 mw_400 mw_331 mw_401) rfl rfl rfl (by decide +kernel) ⟨(Nat.le_of_ble_eq_true rfl), (Nat.le_of_ble_eq_true rfl)⟩) (kRecv (q := (R_Mdl, T_Mdl, 23)) (q0 := 1) (ci := 9) hK hP rfl rfl (kPre (wc := [(h0, .inr (9, [.ref pP, .ref pO, .int th_30, .int sz, .ref pB, .ref pS, .ref pK, .int op, .int rw, .int bg, .int lo, .int cd, .int wd, .int rm, .int 1, .int x, .int y, .int v, .int 1, .long 2147483647, .int 32768, .int 0, .int x37])), (pB, .inl (k.1, 65536, .inl B))]) hE hK hP hD hS hA [1, 0] rfl (by decide))) rfl rfl hl.1 rfl (lv_room (Nat.le_of_ble_eq_true rfl)) d_Mdl_read_139 ⟨(Nat.le_of_ble_eq_true rfl), (Nat.le_of_ble_eq_true rfl)⟩) hP hD hS hA [1, 0] [] rfl rfl (by decide) (by decide) (fun r42 zz uu H locs hw43 hz44 hP hD hS => ?_)
                obtain ⟨le_39, la_40, nx_41⟩ := uu
                have hw43 : r42 = (mci L y v 1 x37).1 ∧ le_39 = (mci L y v 1 x37).2.1 ∧ la_40 = (mci L y v 1 x37).2.2.1 ∧ nx_41 = (mci L y v 1 x37).2.2.2 := hw43
                have hP : va_P D vwCl [(h0, .inr (9, [.ref pP, .ref pO, .int th_30, .int sz, .ref pB, .ref pS, .ref pK, .int op, .int rw, .int bg, .int lo, .int cd, .int wd, .int rm, .int 1, .int x, .int y, .int v, .int nx_41, .long 2147483647, .int 32768, .int le_39, .int la_40])), (pB, .inl (k.1, 65536, .inl B))] H := hP
                have hD : va_D A [(h0, .inr (9, [.ref pP, .ref pO, .int th_30, .int sz, .ref pB, .ref pS, .ref pK, .int op, .int rw, .int bg, .int lo, .int cd, .int wd, .int rm, .int 1, .int x, .int y, .int v, .int nx_41, .long 2147483647, .int 32768, .int le_39, .int la_40])), (pB, .inl (k.1, 65536, .inl B))] := hD
                refine lv_i2l (v := r42.toInt64) hx hb d_Mdl_read_142 rfl ?_
                refine lv_ladd hx hb d_Mdl_read_143 ?_
                refine lv_topl (fun x45 ex45 => ?_)
                refine lv_lstore (lv' := [(5, .long x45), (4, .int 1), (0, .ref h0), (1, .int x), (2, .int y), (3, .int v)]) hx hb d_Mdl_read_144 hl (by decide) rfl (fun ls hl => ?_)
                refine lv_aload_n hx hb d_Mdl_read_146 rfl (lv_at hl 2 rfl) ?_
                refine lv_aload_n hx hb d_Mdl_read_147 rfl (lv_at hl 2 rfl) ?_
                refine va_get (D := D) (ci := 9) (v := .long 2147483647) (C := R_Mdl) (T := T_Mdl) (N := 23) hx hb hts inw_Mdl hown hK hP 0 rfl rfl 19 (by decide) (hts (.fieldLink R_Mdl 134 "LikelyBitsModel" "above" "J") mw_366) (fun _ h9 => h9) rfl d_Mdl_read_148 ?_
                refine lv_lload hx hb d_Mdl_read_151 (lv_at hl 0 rfl) ?_
                refine lv_bipush (v := 7) hx hb d_Mdl_read_153 (by decide) ?_
                refine lv_lshl (v := x45 <<< ((7 : Int32).toInt64 &&& 63)) hx hb d_Mdl_read_155 rfl ?_
                refine lv_lsub hx hb d_Mdl_read_156 ?_
                refine lv_topl (fun x46 ex46 => ?_)
                refine va_put (D := D) (ci := 9) (v := .long x46) (ty := .long) (C := R_Mdl) (T := T_Mdl) (N := 23) hx hb hts inw_Mdl ty_Mdl tyok_Mdl nm_Mdl hown hK hP hD hS 0 rfl rfl 19 (by decide) (hts (.fieldLink R_Mdl 134 "LikelyBitsModel" "above" "J") mw_366) (fun _ h9 => h9) rfl (by decide +kernel) rfl rfl (Nat.le_of_ble_eq_true rfl) d_Mdl_read_157 (fun H locs hP hD hS => ?_)
                have hP : va_P D vwCl [(h0, .inr (9, [.ref pP, .ref pO, .int th_30, .int sz, .ref pB, .ref pS, .ref pK, .int op, .int rw, .int bg, .int lo, .int cd, .int wd, .int rm, .int 1, .int x, .int y, .int v, .int nx_41, .long x46, .int 32768, .int le_39, .int la_40])), (pB, .inl (k.1, 65536, .inl B))] H := hP
                have hD : va_D A [(h0, .inr (9, [.ref pP, .ref pO, .int th_30, .int sz, .ref pB, .ref pS, .ref pK, .int op, .int rw, .int bg, .int lo, .int cd, .int wd, .int rm, .int 1, .int x, .int y, .int v, .int nx_41, .long x46, .int 32768, .int le_39, .int la_40])), (pB, .inl (k.1, 65536, .inl B))] := hD
                refine lv_aload_n hx hb d_Mdl_read_160 rfl (lv_at hl 2 rfl) ?_
                refine lv_aload_n hx hb d_Mdl_read_161 rfl (lv_at hl 2 rfl) ?_
                refine va_get (D := D) (ci := 9) (v := .int le_39) (C := R_Mdl) (T := T_Mdl) (N := 23) hx hb hts inw_Mdl hown hK hP 0 rfl rfl 21 (by decide) (hts (.fieldLink R_Mdl 120 "LikelyBitsModel" "left" "I") mw_357) (fun _ h9 => h9) rfl d_Mdl_read_162 ?_
                refine lv_bipush (v := 7) hx hb d_Mdl_read_165 (by decide) ?_
                refine lv_isub hx hb d_Mdl_read_167 ?_
                refine lv_topi (fun x47 ex47 => ?_)
                refine va_put (D := D) (ci := 9) (v := .int x47) (ty := .int) (C := R_Mdl) (T := T_Mdl) (N := 23) hx hb hts inw_Mdl ty_Mdl tyok_Mdl nm_Mdl hown hK hP hD hS 0 rfl rfl 21 (by decide) (hts (.fieldLink R_Mdl 120 "LikelyBitsModel" "left" "I") mw_357) (fun _ h9 => h9) rfl (by decide +kernel) rfl rfl (Nat.le_of_ble_eq_true rfl) d_Mdl_read_168 (fun H locs hP hD hS => ?_)
                have hP : va_P D vwCl [(h0, .inr (9, [.ref pP, .ref pO, .int th_30, .int sz, .ref pB, .ref pS, .ref pK, .int op, .int rw, .int bg, .int lo, .int cd, .int wd, .int rm, .int 1, .int x, .int y, .int v, .int nx_41, .long x46, .int 32768, .int x47, .int la_40])), (pB, .inl (k.1, 65536, .inl B))] H := hP
                have hD : va_D A [(h0, .inr (9, [.ref pP, .ref pO, .int th_30, .int sz, .ref pB, .ref pS, .ref pK, .int op, .int rw, .int bg, .int lo, .int cd, .int wd, .int rm, .int 1, .int x, .int y, .int v, .int nx_41, .long x46, .int 32768, .int x47, .int la_40])), (pB, .inl (k.1, 65536, .inl B))] := hD
                exact krv (wo := wo_M_read k h0 pB pP pO pS pK th sz op rw bg lo cd wd rm rg rr pl lm nx av sp le la B L x y v) hx hb hr hlk hP hD hS (th_30, 1, x, y, v, nx_41, x46, 32768, x47, la_40) () (by subst ex47; subst ex46; subst ex45; subst ex38; subst ex37; have p9 := hw43; exact ⟨by rw [hc9]; exact hw32.2, fun _ => ⟨rfl, rfl, rfl, rfl, by rw [if_pos c35]; exact p9.2.2.2, by rw [if_pos c35, mra, mrv, ← p9.1], by rw [if_pos c35], by rw [if_pos c35, mrv, ← p9.2.1], by rw [if_pos c35]; exact p9.2.2.1⟩, fun h => absurd hq9 h⟩) trivial [0, 1] rfl (by decide) (Nat.le_of_ble_eq_true rfl) (Nat.le_of_ble_eq_true rfl) d_Mdl_read_171
              · exact krv (wo := wo_M_read k h0 pB pP pO pS pK th sz op rw bg lo cd wd rm rg rr pl lm nx av sp le la B L x y v) hx hb hr hlk hP hD hS (th_30, 1, x, y, v, 0, av, sp, 0, 0) () ⟨by rw [hc9]; exact hw32.2, fun _ => ⟨rfl, rfl, rfl, rfl, by rw [if_neg c35], by rw [if_neg c35], by rw [if_neg c35], by rw [if_neg c35], by rw [if_neg c35]⟩, fun h => absurd hq9 h⟩ trivial [1, 0] rfl (by decide) (Nat.le_of_ble_eq_true rfl) (Nat.le_of_ble_eq_true rfl) d_Mdl_read_98
            · have hc9 : mrx op y v sz = mth op 0 0 := by simp [mrx, mrt, c1, c8, c15, c22]
              have hq9 := mtb_n (hw32.1 ▸ c34)
              rw [← hc9] at hq9
              exact krv (wo := wo_M_read k h0 pB pP pO pS pK th sz op rw bg lo cd wd rm rg rr pl lm nx av sp le la B L x y v) hx hb hr hlk hP hD hS (th_30, rg, rr, pl, lm, nx, av, sp, le, la) () ⟨by rw [hc9]; exact hw32.2, fun h => absurd h hq9, fun _ => ⟨rfl, rfl, rfl, rfl, rfl, rfl, rfl, rfl, rfl⟩⟩ trivial [1, 0] rfl (by decide) (Nat.le_of_ble_eq_true rfl) (Nat.le_of_ble_eq_true rfl) d_Mdl_read_55
          · exact absurd c29 (by decide)

def wo_M_context (k : gK) (h0 pS pK : Nat) (pP : Nat) (pO : Nat) (pB : Nat) (th : Int32) (sz : Int32) (op : Int32) (rw : Int32) (bg : Int32) (lo : Int32) (cd : Int32) (wd : Int32) (rm : Int32) (rg : Int32) (rr : Int32) (pl : Int32) (lm : Int32) (nx : Int32) (av : Int64) (sp : Int32) (le : Int32) (la : Int32) (S : Nat → Int32) (K : Nat → Int32) (x : Int32) (y : Int32) (z : Int32) (v : Int32) (zz : Unit) (uu : Int32 × (Nat → Int32) × (Nat → Int32)) : va_W := match zz, uu with
  | _, (th2, S2, K2) => [(h0, .inr (9, [.ref pP, .ref pO, .int th2, .int sz, .ref pB, .ref pS, .ref pK, .int op, .int rw, .int bg, .int lo, .int cd, .int wd, .int rm, .int rg, .int rr, .int pl, .int lm, .int nx, .long av, .int sp, .int le, .int la])), (pS, .inl (k.1, 38, .inl S2)), (pK, .inl (k.1, 38, .inl K2))]
def ex_M_context (k : gK) (h0 pS pK : Nat) (pP : Nat) (pO : Nat) (pB : Nat) (th : Int32) (sz : Int32) (op : Int32) (rw : Int32) (bg : Int32) (lo : Int32) (cd : Int32) (wd : Int32) (rm : Int32) (rg : Int32) (rr : Int32) (pl : Int32) (lm : Int32) (nx : Int32) (av : Int64) (sp : Int32) (le : Int32) (la : Int32) (S : Nat → Int32) (K : Nat → Int32) (x : Int32) (y : Int32) (z : Int32) (v : Int32) (zz : Unit) (uu : Int32 × (Nat → Int32) × (Nat → Int32)) : Prop := match zz, uu with
  | _, (th2, S2, K2) => True
def po_M_context (k : gK) (h0 pS pK : Nat) (pP : Nat) (pO : Nat) (pB : Nat) (th : Int32) (sz : Int32) (op : Int32) (rw : Int32) (bg : Int32) (lo : Int32) (cd : Int32) (wd : Int32) (rm : Int32) (rg : Int32) (rr : Int32) (pl : Int32) (lm : Int32) (nx : Int32) (av : Int64) (sp : Int32) (le : Int32) (la : Int32) (S : Nat → Int32) (K : Nat → Int32) (x : Int32) (y : Int32) (z : Int32) (v : Int32) (uu : Int32 × (Nat → Int32) × (Nat → Int32)) : Prop := match uu with
  | (th2, S2, K2) => th2 = mxc y z v ∧ S2 = (if mxc y z v ≤ 0 then upd S (mix x y).toNatClampNeg z else S) ∧ K2 = (if mxc y z v ≤ 0 then upd K (mix x y).toNatClampNeg v else K)
def qc_M_context (D : va_G) (k : gK) (h0 pS pK : Nat) (pP : Nat) (pO : Nat) (pB : Nat) (th : Int32) (sz : Int32) (op : Int32) (rw : Int32) (bg : Int32) (lo : Int32) (cd : Int32) (wd : Int32) (rm : Int32) (rg : Int32) (rr : Int32) (pl : Int32) (lm : Int32) (nx : Int32) (av : Int64) (sp : Int32) (le : Int32) (la : Int32) (S : Nat → Int32) (K : Nat → Int32) (x : Int32) (y : Int32) (z : Int32) (v : Int32) (A : Nat → Prop) : Array Value → State → Outcome → State → Prop := va_Qv (po_M_context k h0 pS pK pP pO pB th sz op rw bg lo cd wd rm rg rr pl lm nx av sp le la S K x y z v) (fun uu t => ∃ zz, ex_M_context k h0 pS pK pP pO pB th sz op rw bg lo cd wd rm rg rr pl lm nx av sp le la S K x y z v zz uu ∧ GP D A (wo_M_context k h0 pS pK pP pO pB th sz op rw bg lo cd wd rm rg rr pl lm nx av sp le la S K x y z v zz uu) t) A
set_option maxHeartbeats 1000000 in
set_option maxRecDepth 100000 in
theorem c_M_context (l : Launch) (hl9 : l.stackTraces = false) (D : va_G) (k : gK) (h0 pS pK : Nat) (zsz : Nat) (pP : Nat) (pO : Nat) (pB : Nat) (th : Int32) (sz : Int32) (op : Int32) (rw : Int32) (bg : Int32) (lo : Int32) (cd : Int32) (wd : Int32) (rm : Int32) (rg : Int32) (rr : Int32) (pl : Int32) (lm : Int32) (nx : Int32) (av : Int64) (sp : Int32) (le : Int32) (la : Int32) (S : Nat → Int32) (K : Nat → Int32) (x : Int32) (y : Int32) (z : Int32) (v : Int32) : Met l y_Mdl_context (.code y_Mdl_context b_Mdl_context 6 none :: AW) ({ frames := 1, cells := 0, slots := 0, locals := 23 }) (va_Pc [.ref h0, .int x, .int y, .int z, .int v] (GG D k [(h0, .inr (9, [.ref pP, .ref pO, .int th, .int sz, .ref pB, .ref pS, .ref pK, .int op, .int rw, .int bg, .int lo, .int cd, .int wd, .int rm, .int rg, .int rr, .int pl, .int lm, .int nx, .long av, .int sp, .int le, .int la])), (pS, .inl (k.1, 38, .inl S)), (pK, .inl (k.1, 38, .inl K))] zsz)) (qc_M_context D k h0 pS pK pP pO pB th sz op rw bg lo cd wd rm rg rr pl lm nx av sp le la S K x y z v (va_A [(h0, .inr (9, [.ref pP, .ref pO, .int th, .int sz, .ref pB, .ref pS, .ref pK, .int op, .int rw, .int bg, .int lo, .int cd, .int wd, .int rm, .int rg, .int rr, .int pl, .int lm, .int nx, .long av, .int sp, .int le, .int la])), (pS, .inl (k.1, 38, .inl S)), (pK, .inl (k.1, 38, .inl K))] zsz)) 0 0 (va_A [(h0, .inr (9, [.ref pP, .ref pO, .int th, .int sz, .ref pB, .ref pS, .ref pK, .int op, .int rw, .int bg, .int lo, .int cd, .int wd, .int rm, .int rg, .int rr, .int pl, .int lm, .int nx, .long av, .int sp, .int le, .int la])), (pS, .inl (k.1, 38, .inl S)), (pK, .inl (k.1, 38, .inl K))] zsz) := by
  refine kMet (ws := [(h0, .inr (9, [.ref pP, .ref pO, .int th, .int sz, .ref pB, .ref pS, .ref pK, .int op, .int rw, .int bg, .int lo, .int cd, .int wd, .int rm, .int rg, .int rr, .int pl, .int lm, .int nx, .long av, .int sp, .int le, .int la])), (pS, .inl (k.1, 38, .inl S)), (pK, .inl (k.1, 38, .inl K))]) (Qc := qc_M_context D k h0 pS pK pP pO pB th sz op rw bg lo cd wd rm rg rr pl lm nx av sp le la S K x y z v) (by decide) (Nat.le_of_ble_eq_true rfl) (fun p e s m below meth c ls A H Cc hP hD hA hS hl => ?_)
  obtain ⟨hx, hb, hml, hr, hlk, hown, hts, hK, hE, hin⟩ := Cc
  have hl : lv_has ls 6 [(0, .ref h0), (1, .int x), (2, .int y), (3, .int z), (4, .int v)] := hl
  refine lv_aload_n hx hb d_Mdl_context_0 rfl (lv_at hl 0 rfl) ?_
  refine lv_iload_n hx hb d_Mdl_context_1 rfl (lv_at hl 2 rfl) ?_
  refine lv_iconst (v := 0) hx hb d_Mdl_context_2 (by decide) ?_
  refine lv_bipush (v := 18) hx hb d_Mdl_context_3 (by decide) ?_
  refine kqi (va_runS (As := [.int y, .int 0, .int 18]) (rest := [.ref h0]) ⟨hx, hb, hml, hown, hts⟩ (c_M_out l hl9 D k  y 0 18 ) (cwS 3 hts (gS mw_368 mw_369 mw_331 mw_370) rfl rfl rfl (by decide +kernel) ⟨(Nat.le_of_ble_eq_true rfl), (Nat.le_of_ble_eq_true rfl)⟩) (kPreR (wc := []) hE hK hP hS [] rfl) rfl rfl hl.1 rfl (lv_room (Nat.le_of_ble_eq_true rfl)) d_Mdl_context_5 ⟨(Nat.le_of_ble_eq_true rfl), (Nat.le_of_ble_eq_true rfl)⟩) hP hS (fun r1 H locs hw hP hS => ?_)
  replace hw := hw.symm
  subst hw
  refine lv_if_ne (tgt := 31) hx hb d_Mdl_context_8 (by decide) (fun c2 => ?_) (fun c2 => ?_)
  · refine lv_iconst (v := 1) hx hb d_Mdl_context_31 (by decide) ?_
    refine lv_goto (tgt := 36) hx hb d_Mdl_context_32 (by decide) ?_
    refine lv_iconst (v := 0) hx hb d_Mdl_context_36 (by decide) ?_
    refine lv_iconst (v := 0) hx hb d_Mdl_context_37 (by decide) ?_
    refine kci (wc := [(h0, .inr (9, [.ref pP, .ref pO, .int th, .int sz, .ref pB, .ref pS, .ref pK, .int op, .int rw, .int bg, .int lo, .int cd, .int wd, .int rm, .int rg, .int rr, .int pl, .int lm, .int nx, .long av, .int sp, .int le, .int la]))]) (wr := [(pS, .inl (k.1, 38, .inl S)), (pK, .inl (k.1, 38, .inl K))]) (va_runV (As := [.int 1, .int 0, .int 0]) (rest := []) ⟨hx, hb, hml, hown, hts⟩ (c_M_throwing l hl9 D k h0 H.size pP pO pB pS pK th sz op rw bg lo cd wd rm rg rr pl lm nx av sp le la 1 0 0 ) (cwV 3 hts (gV mw_372 mw_373 mw_374 mw_331 mw_375) rfl rfl rfl (by decide +kernel) ⟨(Nat.le_of_ble_eq_true rfl), (Nat.le_of_ble_eq_true rfl)⟩) (kRecv (q := (R_Mdl, T_Mdl, 23)) (q0 := 0) (ci := 9) hK hP rfl rfl (kPre (wc := [(h0, .inr (9, [.ref pP, .ref pO, .int th, .int sz, .ref pB, .ref pS, .ref pK, .int op, .int rw, .int bg, .int lo, .int cd, .int wd, .int rm, .int rg, .int rr, .int pl, .int lm, .int nx, .long av, .int sp, .int le, .int la]))]) hE hK hP hD hS hA [0] rfl (by decide))) rfl rfl hl.1 rfl (lv_room (Nat.le_of_ble_eq_true rfl)) d_Mdl_context_38 ⟨(Nat.le_of_ble_eq_true rfl), (Nat.le_of_ble_eq_true rfl)⟩) hP hD hS hA [0] [1, 2] rfl rfl (by decide) (by decide) (fun r4 zz uu H locs hw5 hz6 hP hD hS => ?_)
    obtain ⟨th_3, rfl⟩ : ∃ y, y = uu := ⟨_, rfl⟩
    have hw5 : r4 = mtb 1 0 0 ∧ th_3 = mth 1 0 0 := hw5
    have hP : va_P D vwCl [(pS, .inl (k.1, 38, .inl S)), (pK, .inl (k.1, 38, .inl K)), (h0, .inr (9, [.ref pP, .ref pO, .int th_3, .int sz, .ref pB, .ref pS, .ref pK, .int op, .int rw, .int bg, .int lo, .int cd, .int wd, .int rm, .int rg, .int rr, .int pl, .int lm, .int nx, .long av, .int sp, .int le, .int la]))] H := hP
    have hD : va_D A [(pS, .inl (k.1, 38, .inl S)), (pK, .inl (k.1, 38, .inl K)), (h0, .inr (9, [.ref pP, .ref pO, .int th_3, .int sz, .ref pB, .ref pS, .ref pK, .int op, .int rw, .int bg, .int lo, .int cd, .int wd, .int rm, .int rg, .int rr, .int pl, .int lm, .int nx, .long av, .int sp, .int le, .int la]))] := hD
    refine lv_if_eq (tgt := 45) hx hb d_Mdl_context_41 (by decide) (fun c7 => ?_) (fun c7 => ?_)
    · exact absurd (mtb_0 (hw5.1 ▸ c7)) (by decide)
    · have hq8 := mtb_n (hw5.1 ▸ c7)
      exact krv (wo := wo_M_context k h0 pS pK pP pO pB th sz op rw bg lo cd wd rm rg rr pl lm nx av sp le la S K x y z v) hx hb hr hlk hP hD hS (th_3, S, K) () (by have h8 := hw5.2; have hc9 : mxc y z v = mth 1 0 0 := (by simp [mxc, c2]); unfold po_M_context; rw [hc9]; rw [if_neg hq8, if_neg hq8]; exact ⟨h8, rfl, rfl⟩) trivial [2, 0, 1] rfl (by decide) (Nat.le_of_ble_eq_true rfl) (Nat.le_of_ble_eq_true rfl) d_Mdl_context_44
  · refine lv_iload_n hx hb d_Mdl_context_11 rfl (lv_at hl 3 rfl) ?_
    refine lv_iconst (v := 0) hx hb d_Mdl_context_12 (by decide) ?_
    refine lv_bipush (v := 46) hx hb d_Mdl_context_13 (by decide) ?_
    refine kqi (va_runS (As := [.int z, .int 0, .int 46]) (rest := [.ref h0]) ⟨hx, hb, hml, hown, hts⟩ (c_M_out l hl9 D k  z 0 46 ) (cwS 3 hts (gS mw_368 mw_369 mw_331 mw_370) rfl rfl rfl (by decide +kernel) ⟨(Nat.le_of_ble_eq_true rfl), (Nat.le_of_ble_eq_true rfl)⟩) (kPreR (wc := []) hE hK hP hS [] rfl) rfl rfl hl.1 rfl (lv_room (Nat.le_of_ble_eq_true rfl)) d_Mdl_context_15 ⟨(Nat.le_of_ble_eq_true rfl), (Nat.le_of_ble_eq_true rfl)⟩) hP hS (fun r9 H locs hw hP hS => ?_)
    replace hw := hw.symm
    subst hw
    refine lv_if_ne (tgt := 31) hx hb d_Mdl_context_18 (by decide) (fun c10 => ?_) (fun c10 => ?_)
    · refine lv_iconst (v := 1) hx hb d_Mdl_context_31 (by decide) ?_
      refine lv_goto (tgt := 36) hx hb d_Mdl_context_32 (by decide) ?_
      refine lv_iconst (v := 0) hx hb d_Mdl_context_36 (by decide) ?_
      refine lv_iconst (v := 0) hx hb d_Mdl_context_37 (by decide) ?_
      refine kci (wc := [(h0, .inr (9, [.ref pP, .ref pO, .int th, .int sz, .ref pB, .ref pS, .ref pK, .int op, .int rw, .int bg, .int lo, .int cd, .int wd, .int rm, .int rg, .int rr, .int pl, .int lm, .int nx, .long av, .int sp, .int le, .int la]))]) (wr := [(pS, .inl (k.1, 38, .inl S)), (pK, .inl (k.1, 38, .inl K))]) (va_runV (As := [.int 1, .int 0, .int 0]) (rest := []) ⟨hx, hb, hml, hown, hts⟩ (c_M_throwing l hl9 D k h0 H.size pP pO pB pS pK th sz op rw bg lo cd wd rm rg rr pl lm nx av sp le la 1 0 0 ) (cwV 3 hts (gV mw_372 mw_373 mw_374 mw_331 mw_375) rfl rfl rfl (by decide +kernel) ⟨(Nat.le_of_ble_eq_true rfl), (Nat.le_of_ble_eq_true rfl)⟩) (kRecv (q := (R_Mdl, T_Mdl, 23)) (q0 := 0) (ci := 9) hK hP rfl rfl (kPre (wc := [(h0, .inr (9, [.ref pP, .ref pO, .int th, .int sz, .ref pB, .ref pS, .ref pK, .int op, .int rw, .int bg, .int lo, .int cd, .int wd, .int rm, .int rg, .int rr, .int pl, .int lm, .int nx, .long av, .int sp, .int le, .int la]))]) hE hK hP hD hS hA [0] rfl (by decide))) rfl rfl hl.1 rfl (lv_room (Nat.le_of_ble_eq_true rfl)) d_Mdl_context_38 ⟨(Nat.le_of_ble_eq_true rfl), (Nat.le_of_ble_eq_true rfl)⟩) hP hD hS hA [0] [1, 2] rfl rfl (by decide) (by decide) (fun r12 zz uu H locs hw13 hz14 hP hD hS => ?_)
      obtain ⟨th_11, rfl⟩ : ∃ y, y = uu := ⟨_, rfl⟩
      have hw13 : r12 = mtb 1 0 0 ∧ th_11 = mth 1 0 0 := hw13
      have hP : va_P D vwCl [(pS, .inl (k.1, 38, .inl S)), (pK, .inl (k.1, 38, .inl K)), (h0, .inr (9, [.ref pP, .ref pO, .int th_11, .int sz, .ref pB, .ref pS, .ref pK, .int op, .int rw, .int bg, .int lo, .int cd, .int wd, .int rm, .int rg, .int rr, .int pl, .int lm, .int nx, .long av, .int sp, .int le, .int la]))] H := hP
      have hD : va_D A [(pS, .inl (k.1, 38, .inl S)), (pK, .inl (k.1, 38, .inl K)), (h0, .inr (9, [.ref pP, .ref pO, .int th_11, .int sz, .ref pB, .ref pS, .ref pK, .int op, .int rw, .int bg, .int lo, .int cd, .int wd, .int rm, .int rg, .int rr, .int pl, .int lm, .int nx, .long av, .int sp, .int le, .int la]))] := hD
      refine lv_if_eq (tgt := 45) hx hb d_Mdl_context_41 (by decide) (fun c15 => ?_) (fun c15 => ?_)
      · exact absurd (mtb_0 (hw13.1 ▸ c15)) (by decide)
      · have hq16 := mtb_n (hw13.1 ▸ c15)
        exact krv (wo := wo_M_context k h0 pS pK pP pO pB th sz op rw bg lo cd wd rm rg rr pl lm nx av sp le la S K x y z v) hx hb hr hlk hP hD hS (th_11, S, K) () (by have h8 := hw13.2; have hc9 : mxc y z v = mth 1 0 0 := (by simp [mxc, c2, c10]); unfold po_M_context; rw [hc9]; rw [if_neg hq16, if_neg hq16]; exact ⟨h8, rfl, rfl⟩) trivial [2, 0, 1] rfl (by decide) (Nat.le_of_ble_eq_true rfl) (Nat.le_of_ble_eq_true rfl) d_Mdl_context_44
    · refine lv_iload hx hb d_Mdl_context_21 (lv_at hl 4 rfl) ?_
      refine lv_iconst (v := 0) hx hb d_Mdl_context_23 (by decide) ?_
      refine lv_iconst (v := 1) hx hb d_Mdl_context_24 (by decide) ?_
      refine kqi (va_runS (As := [.int v, .int 0, .int 1]) (rest := [.ref h0]) ⟨hx, hb, hml, hown, hts⟩ (c_M_out l hl9 D k  v 0 1 ) (cwS 3 hts (gS mw_368 mw_369 mw_331 mw_370) rfl rfl rfl (by decide +kernel) ⟨(Nat.le_of_ble_eq_true rfl), (Nat.le_of_ble_eq_true rfl)⟩) (kPreR (wc := []) hE hK hP hS [] rfl) rfl rfl hl.1 rfl (lv_room (Nat.le_of_ble_eq_true rfl)) d_Mdl_context_25 ⟨(Nat.le_of_ble_eq_true rfl), (Nat.le_of_ble_eq_true rfl)⟩) hP hS (fun r17 H locs hw hP hS => ?_)
      replace hw := hw.symm
      subst hw
      refine lv_if_eq (tgt := 35) hx hb d_Mdl_context_28 (by decide) (fun c18 => ?_) (fun c18 => ?_)
      · refine lv_iconst (v := 0) hx hb d_Mdl_context_35 (by decide) ?_
        refine lv_iconst (v := 0) hx hb d_Mdl_context_36 (by decide) ?_
        refine lv_iconst (v := 0) hx hb d_Mdl_context_37 (by decide) ?_
        refine kci (wc := [(h0, .inr (9, [.ref pP, .ref pO, .int th, .int sz, .ref pB, .ref pS, .ref pK, .int op, .int rw, .int bg, .int lo, .int cd, .int wd, .int rm, .int rg, .int rr, .int pl, .int lm, .int nx, .long av, .int sp, .int le, .int la]))]) (wr := [(pS, .inl (k.1, 38, .inl S)), (pK, .inl (k.1, 38, .inl K))]) (va_runV (As := [.int 0, .int 0, .int 0]) (rest := []) ⟨hx, hb, hml, hown, hts⟩ (c_M_throwing l hl9 D k h0 H.size pP pO pB pS pK th sz op rw bg lo cd wd rm rg rr pl lm nx av sp le la 0 0 0 ) (cwV 3 hts (gV mw_372 mw_373 mw_374 mw_331 mw_375) rfl rfl rfl (by decide +kernel) ⟨(Nat.le_of_ble_eq_true rfl), (Nat.le_of_ble_eq_true rfl)⟩) (kRecv (q := (R_Mdl, T_Mdl, 23)) (q0 := 0) (ci := 9) hK hP rfl rfl (kPre (wc := [(h0, .inr (9, [.ref pP, .ref pO, .int th, .int sz, .ref pB, .ref pS, .ref pK, .int op, .int rw, .int bg, .int lo, .int cd, .int wd, .int rm, .int rg, .int rr, .int pl, .int lm, .int nx, .long av, .int sp, .int le, .int la]))]) hE hK hP hD hS hA [0] rfl (by decide))) rfl rfl hl.1 rfl (lv_room (Nat.le_of_ble_eq_true rfl)) d_Mdl_context_38 ⟨(Nat.le_of_ble_eq_true rfl), (Nat.le_of_ble_eq_true rfl)⟩) hP hD hS hA [0] [1, 2] rfl rfl (by decide) (by decide) (fun r20 zz uu H locs hw21 hz22 hP hD hS => ?_)
        obtain ⟨th_19, rfl⟩ : ∃ y, y = uu := ⟨_, rfl⟩
        have hw21 : r20 = mtb 0 0 0 ∧ th_19 = mth 0 0 0 := hw21
        have hP : va_P D vwCl [(pS, .inl (k.1, 38, .inl S)), (pK, .inl (k.1, 38, .inl K)), (h0, .inr (9, [.ref pP, .ref pO, .int th_19, .int sz, .ref pB, .ref pS, .ref pK, .int op, .int rw, .int bg, .int lo, .int cd, .int wd, .int rm, .int rg, .int rr, .int pl, .int lm, .int nx, .long av, .int sp, .int le, .int la]))] H := hP
        have hD : va_D A [(pS, .inl (k.1, 38, .inl S)), (pK, .inl (k.1, 38, .inl K)), (h0, .inr (9, [.ref pP, .ref pO, .int th_19, .int sz, .ref pB, .ref pS, .ref pK, .int op, .int rw, .int bg, .int lo, .int cd, .int wd, .int rm, .int rg, .int rr, .int pl, .int lm, .int nx, .long av, .int sp, .int le, .int la]))] := hD
        refine lv_if_eq (tgt := 45) hx hb d_Mdl_context_41 (by decide) (fun c23 => ?_) (fun c23 => ?_)
        · have hq24 := mtb_0 (hw21.1 ▸ c23)
          refine lv_iload_n hx hb d_Mdl_context_45 rfl (lv_at hl 1 rfl) ?_
          refine lv_if_eq (tgt := 56) hx hb d_Mdl_context_46 (by decide) (fun c25 => ?_) (fun c25 => ?_)
          · refine lv_iload_n hx hb d_Mdl_context_56 rfl (lv_at hl 2 rfl) ?_
            refine lv_istore (lv' := [(5, .int y), (0, .ref h0), (1, .int x), (2, .int y), (3, .int z), (4, .int v)]) hx hb d_Mdl_context_57 hl (by decide) rfl (fun ls hl => ?_)
            refine lv_aload_n hx hb d_Mdl_context_59 rfl (lv_at hl 1 rfl) ?_
            refine va_get (D := D) (ci := 9) (v := .ref pS) (C := R_Mdl) (T := T_Mdl) (N := 23) hx hb hts inw_Mdl hown hK hP 2 rfl rfl 5 (by decide) (hts (.fieldLink R_Mdl 20 "LikelyBitsModel" "states" "[I") mw_349) (fun _ h9 => h9) rfl d_Mdl_context_60 ?_
            refine lv_iload hx hb d_Mdl_context_63 (lv_at hl 0 rfl) ?_
            refine lv_iload_n hx hb d_Mdl_context_65 rfl (lv_at hl 4 rfl) ?_
            refine va_iast hx hb hK hP hD hS 0 0 rfl rfl (mix_in2 (x := x) c2 (by rw [mix, if_pos c25])) d_Mdl_context_66 (fun H locs hP hD hS => ?_)
            have hP : va_P D vwCl [(pS, .inl (k.1, 38, .inl (upd S y.toNatClampNeg z))), (pK, .inl (k.1, 38, .inl K)), (h0, .inr (9, [.ref pP, .ref pO, .int th_19, .int sz, .ref pB, .ref pS, .ref pK, .int op, .int rw, .int bg, .int lo, .int cd, .int wd, .int rm, .int rg, .int rr, .int pl, .int lm, .int nx, .long av, .int sp, .int le, .int la]))] H := hP
            have hD : va_D A [(pS, .inl (k.1, 38, .inl (upd S y.toNatClampNeg z))), (pK, .inl (k.1, 38, .inl K)), (h0, .inr (9, [.ref pP, .ref pO, .int th_19, .int sz, .ref pB, .ref pS, .ref pK, .int op, .int rw, .int bg, .int lo, .int cd, .int wd, .int rm, .int rg, .int rr, .int pl, .int lm, .int nx, .long av, .int sp, .int le, .int la]))] := hD
            refine lv_aload_n hx hb d_Mdl_context_67 rfl (lv_at hl 1 rfl) ?_
            refine va_get (D := D) (ci := 9) (v := .ref pK) (C := R_Mdl) (T := T_Mdl) (N := 23) hx hb hts inw_Mdl hown hK hP 2 rfl rfl 6 (by decide) (hts (.fieldLink R_Mdl 23 "LikelyBitsModel" "likely" "[I") mw_353) (fun _ h9 => h9) rfl d_Mdl_context_68 ?_
            refine lv_iload hx hb d_Mdl_context_71 (lv_at hl 0 rfl) ?_
            refine lv_iload hx hb d_Mdl_context_73 (lv_at hl 5 rfl) ?_
            refine va_iast hx hb hK hP hD hS 1 0 rfl rfl (mix_in2 (x := x) c2 (by rw [mix, if_pos c25])) d_Mdl_context_75 (fun H locs hP hD hS => ?_)
            have hP : va_P D vwCl [(pS, .inl (k.1, 38, .inl (upd S y.toNatClampNeg z))), (pK, .inl (k.1, 38, .inl (upd K y.toNatClampNeg v))), (h0, .inr (9, [.ref pP, .ref pO, .int th_19, .int sz, .ref pB, .ref pS, .ref pK, .int op, .int rw, .int bg, .int lo, .int cd, .int wd, .int rm, .int rg, .int rr, .int pl, .int lm, .int nx, .long av, .int sp, .int le, .int la]))] H := hP
            have hD : va_D A [(pS, .inl (k.1, 38, .inl (upd S y.toNatClampNeg z))), (pK, .inl (k.1, 38, .inl (upd K y.toNatClampNeg v))), (h0, .inr (9, [.ref pP, .ref pO, .int th_19, .int sz, .ref pB, .ref pS, .ref pK, .int op, .int rw, .int bg, .int lo, .int cd, .int wd, .int rm, .int rg, .int rr, .int pl, .int lm, .int nx, .long av, .int sp, .int le, .int la]))] := hD
            exact krv (wo := wo_M_context k h0 pS pK pP pO pB th sz op rw bg lo cd wd rm rg rr pl lm nx av sp le la S K x y z v) hx hb hr hlk hP hD hS (th_19, upd S y.toNatClampNeg z, upd K y.toNatClampNeg v) () (by have h8 := hw21.2; have hc9 : mxc y z v = mth 0 0 0 := (by simp [mxc, c2, c10, c18]); unfold po_M_context; rw [hc9]; rw [if_pos hq24, if_pos hq24, mix, if_pos c25]; exact ⟨h8, rfl, rfl⟩) trivial [2, 0, 1] rfl (by decide) (Nat.le_of_ble_eq_true rfl) (Nat.le_of_ble_eq_true rfl) d_Mdl_context_76
          · refine lv_bipush (v := 19) hx hb d_Mdl_context_49 (by decide) ?_
            refine lv_iload_n hx hb d_Mdl_context_51 rfl (lv_at hl 2 rfl) ?_
            refine lv_iadd hx hb d_Mdl_context_52 ?_
            refine lv_goto (tgt := 57) hx hb d_Mdl_context_53 (by decide) ?_
            refine lv_topi (fun x26 ex26 => ?_)
            refine lv_istore (lv' := [(5, .int x26), (0, .ref h0), (1, .int x), (2, .int y), (3, .int z), (4, .int v)]) hx hb d_Mdl_context_57 hl (by decide) rfl (fun ls hl => ?_)
            refine lv_aload_n hx hb d_Mdl_context_59 rfl (lv_at hl 1 rfl) ?_
            refine va_get (D := D) (ci := 9) (v := .ref pS) (C := R_Mdl) (T := T_Mdl) (N := 23) hx hb hts inw_Mdl hown hK hP 2 rfl rfl 5 (by decide) (hts (.fieldLink R_Mdl 20 "LikelyBitsModel" "states" "[I") mw_349) (fun _ h9 => h9) rfl d_Mdl_context_60 ?_
            refine lv_iload hx hb d_Mdl_context_63 (lv_at hl 0 rfl) ?_
            refine lv_iload_n hx hb d_Mdl_context_65 rfl (lv_at hl 4 rfl) ?_
            refine va_iast hx hb hK hP hD hS 0 0 rfl rfl (mix_in2 (x := x) c2 (by rw [mix, if_neg c25, ex26])) d_Mdl_context_66 (fun H locs hP hD hS => ?_)
            have hP : va_P D vwCl [(pS, .inl (k.1, 38, .inl (upd S x26.toNatClampNeg z))), (pK, .inl (k.1, 38, .inl K)), (h0, .inr (9, [.ref pP, .ref pO, .int th_19, .int sz, .ref pB, .ref pS, .ref pK, .int op, .int rw, .int bg, .int lo, .int cd, .int wd, .int rm, .int rg, .int rr, .int pl, .int lm, .int nx, .long av, .int sp, .int le, .int la]))] H := hP
            have hD : va_D A [(pS, .inl (k.1, 38, .inl (upd S x26.toNatClampNeg z))), (pK, .inl (k.1, 38, .inl K)), (h0, .inr (9, [.ref pP, .ref pO, .int th_19, .int sz, .ref pB, .ref pS, .ref pK, .int op, .int rw, .int bg, .int lo, .int cd, .int wd, .int rm, .int rg, .int rr, .int pl, .int lm, .int nx, .long av, .int sp, .int le, .int la]))] := hD
            refine lv_aload_n hx hb d_Mdl_context_67 rfl (lv_at hl 1 rfl) ?_
            refine va_get (D := D) (ci := 9) (v := .ref pK) (C := R_Mdl) (T := T_Mdl) (N := 23) hx hb hts inw_Mdl hown hK hP 2 rfl rfl 6 (by decide) (hts (.fieldLink R_Mdl 23 "LikelyBitsModel" "likely" "[I") mw_353) (fun _ h9 => h9) rfl d_Mdl_context_68 ?_
            refine lv_iload hx hb d_Mdl_context_71 (lv_at hl 0 rfl) ?_
            refine lv_iload hx hb d_Mdl_context_73 (lv_at hl 5 rfl) ?_
            refine va_iast hx hb hK hP hD hS 1 0 rfl rfl (mix_in2 (x := x) c2 (by rw [mix, if_neg c25, ex26])) d_Mdl_context_75 (fun H locs hP hD hS => ?_)
            have hP : va_P D vwCl [(pS, .inl (k.1, 38, .inl (upd S x26.toNatClampNeg z))), (pK, .inl (k.1, 38, .inl (upd K x26.toNatClampNeg v))), (h0, .inr (9, [.ref pP, .ref pO, .int th_19, .int sz, .ref pB, .ref pS, .ref pK, .int op, .int rw, .int bg, .int lo, .int cd, .int wd, .int rm, .int rg, .int rr, .int pl, .int lm, .int nx, .long av, .int sp, .int le, .int la]))] H := hP
            have hD : va_D A [(pS, .inl (k.1, 38, .inl (upd S x26.toNatClampNeg z))), (pK, .inl (k.1, 38, .inl (upd K x26.toNatClampNeg v))), (h0, .inr (9, [.ref pP, .ref pO, .int th_19, .int sz, .ref pB, .ref pS, .ref pK, .int op, .int rw, .int bg, .int lo, .int cd, .int wd, .int rm, .int rg, .int rr, .int pl, .int lm, .int nx, .long av, .int sp, .int le, .int la]))] := hD
            exact krv (wo := wo_M_context k h0 pS pK pP pO pB th sz op rw bg lo cd wd rm rg rr pl lm nx av sp le la S K x y z v) hx hb hr hlk hP hD hS (th_19, upd S x26.toNatClampNeg z, upd K x26.toNatClampNeg v) () (by have h8 := hw21.2; have hc9 : mxc y z v = mth 0 0 0 := (by simp [mxc, c2, c10, c18]); unfold po_M_context; rw [hc9]; rw [if_pos hq24, if_pos hq24, mix, if_neg c25, ex26]; exact ⟨h8, rfl, rfl⟩) trivial [2, 0, 1] rfl (by decide) (Nat.le_of_ble_eq_true rfl) (Nat.le_of_ble_eq_true rfl) d_Mdl_context_76
        · exact absurd (by decide) (mtb_n (hw21.1 ▸ c23))
      · refine lv_iconst (v := 1) hx hb d_Mdl_context_31 (by decide) ?_
        refine lv_goto (tgt := 36) hx hb d_Mdl_context_32 (by decide) ?_
        refine lv_iconst (v := 0) hx hb d_Mdl_context_36 (by decide) ?_
        refine lv_iconst (v := 0) hx hb d_Mdl_context_37 (by decide) ?_
        refine kci (wc := [(h0, .inr (9, [.ref pP, .ref pO, .int th, .int sz, .ref pB, .ref pS, .ref pK, .int op, .int rw, .int bg, .int lo, .int cd, .int wd, .int rm, .int rg, .int rr, .int pl, .int lm, .int nx, .long av, .int sp, .int le, .int la]))]) (wr := [(pS, .inl (k.1, 38, .inl S)), (pK, .inl (k.1, 38, .inl K))]) (va_runV (As := [.int 1, .int 0, .int 0]) (rest := []) ⟨hx, hb, hml, hown, hts⟩ (c_M_throwing l hl9 D k h0 H.size pP pO pB pS pK th sz op rw bg lo cd wd rm rg rr pl lm nx av sp le la 1 0 0 ) (cwV 3 hts (gV mw_372 mw_373 mw_374 mw_331 mw_375) rfl rfl rfl (by decide +kernel) ⟨(Nat.le_of_ble_eq_true rfl), (Nat.le_of_ble_eq_true rfl)⟩) (kRecv (q := (R_Mdl, T_Mdl, 23)) (q0 := 0) (ci := 9) hK hP rfl rfl (kPre (wc := [(h0, .inr (9, [.ref pP, .ref pO, .int th, .int sz, .ref pB, .ref pS, .ref pK, .int op, .int rw, .int bg, .int lo, .int cd, .int wd, .int rm, .int rg, .int rr, .int pl, .int lm, .int nx, .long av, .int sp, .int le, .int la]))]) hE hK hP hD hS hA [0] rfl (by decide))) rfl rfl hl.1 rfl (lv_room (Nat.le_of_ble_eq_true rfl)) d_Mdl_context_38 ⟨(Nat.le_of_ble_eq_true rfl), (Nat.le_of_ble_eq_true rfl)⟩) hP hD hS hA [0] [1, 2] rfl rfl (by decide) (by decide) (fun r28 zz uu H locs hw29 hz30 hP hD hS => ?_)
        obtain ⟨th_27, rfl⟩ : ∃ y, y = uu := ⟨_, rfl⟩
        have hw29 : r28 = mtb 1 0 0 ∧ th_27 = mth 1 0 0 := hw29
        have hP : va_P D vwCl [(pS, .inl (k.1, 38, .inl S)), (pK, .inl (k.1, 38, .inl K)), (h0, .inr (9, [.ref pP, .ref pO, .int th_27, .int sz, .ref pB, .ref pS, .ref pK, .int op, .int rw, .int bg, .int lo, .int cd, .int wd, .int rm, .int rg, .int rr, .int pl, .int lm, .int nx, .long av, .int sp, .int le, .int la]))] H := hP
        have hD : va_D A [(pS, .inl (k.1, 38, .inl S)), (pK, .inl (k.1, 38, .inl K)), (h0, .inr (9, [.ref pP, .ref pO, .int th_27, .int sz, .ref pB, .ref pS, .ref pK, .int op, .int rw, .int bg, .int lo, .int cd, .int wd, .int rm, .int rg, .int rr, .int pl, .int lm, .int nx, .long av, .int sp, .int le, .int la]))] := hD
        refine lv_if_eq (tgt := 45) hx hb d_Mdl_context_41 (by decide) (fun c31 => ?_) (fun c31 => ?_)
        · exact absurd (mtb_0 (hw29.1 ▸ c31)) (by decide)
        · have hq32 := mtb_n (hw29.1 ▸ c31)
          exact krv (wo := wo_M_context k h0 pS pK pP pO pB th sz op rw bg lo cd wd rm rg rr pl lm nx av sp le la S K x y z v) hx hb hr hlk hP hD hS (th_27, S, K) () (by have h8 := hw29.2; have hc9 : mxc y z v = mth 1 0 0 := (by simp [mxc, c2, c10, c18]); unfold po_M_context; rw [hc9]; rw [if_neg hq32, if_neg hq32]; exact ⟨h8, rfl, rfl⟩) trivial [2, 0, 1] rfl (by decide) (Nat.le_of_ble_eq_true rfl) (Nat.le_of_ble_eq_true rfl) d_Mdl_context_44

def wo_M_state (k : gK) (h0 pS pK : Nat) (pP : Nat) (pO : Nat) (pB : Nat) (th : Int32) (sz : Int32) (op : Int32) (rw : Int32) (bg : Int32) (lo : Int32) (cd : Int32) (wd : Int32) (rm : Int32) (rg : Int32) (rr : Int32) (pl : Int32) (lm : Int32) (nx : Int32) (av : Int64) (sp : Int32) (le : Int32) (la : Int32) (S : Nat → Int32) (K : Nat → Int32) (x : Int32) (y : Int32) (zz : Unit) (uu : Int32) : va_W := match zz, uu with
  | _, th2 => [(h0, .inr (9, [.ref pP, .ref pO, .int th2, .int sz, .ref pB, .ref pS, .ref pK, .int op, .int rw, .int bg, .int lo, .int cd, .int wd, .int rm, .int rg, .int rr, .int pl, .int lm, .int nx, .long av, .int sp, .int le, .int la])), (pS, .inl (k.1, 38, .inl S)), (pK, .inl (k.1, 38, .inl K))]
def ex_M_state (k : gK) (h0 pS pK : Nat) (pP : Nat) (pO : Nat) (pB : Nat) (th : Int32) (sz : Int32) (op : Int32) (rw : Int32) (bg : Int32) (lo : Int32) (cd : Int32) (wd : Int32) (rm : Int32) (rg : Int32) (rr : Int32) (pl : Int32) (lm : Int32) (nx : Int32) (av : Int64) (sp : Int32) (le : Int32) (la : Int32) (S : Nat → Int32) (K : Nat → Int32) (x : Int32) (y : Int32) (zz : Unit) (uu : Int32) : Prop := match zz, uu with
  | _, th2 => True
def po_M_state (k : gK) (h0 pS pK : Nat) (pP : Nat) (pO : Nat) (pB : Nat) (th : Int32) (sz : Int32) (op : Int32) (rw : Int32) (bg : Int32) (lo : Int32) (cd : Int32) (wd : Int32) (rm : Int32) (rg : Int32) (rr : Int32) (pl : Int32) (lm : Int32) (nx : Int32) (av : Int64) (sp : Int32) (le : Int32) (la : Int32) (S : Nat → Int32) (K : Nat → Int32) (x : Int32) (y : Int32) (r : Int32) (uu : Int32) : Prop := match uu with
  | th2 => r = (if msc y ≤ 0 then 2 * S (mix x y).toNatClampNeg + K (mix x y).toNatClampNeg else 0) ∧ th2 = msc y
def qc_M_state (D : va_G) (k : gK) (h0 pS pK : Nat) (pP : Nat) (pO : Nat) (pB : Nat) (th : Int32) (sz : Int32) (op : Int32) (rw : Int32) (bg : Int32) (lo : Int32) (cd : Int32) (wd : Int32) (rm : Int32) (rg : Int32) (rr : Int32) (pl : Int32) (lm : Int32) (nx : Int32) (av : Int64) (sp : Int32) (le : Int32) (la : Int32) (S : Nat → Int32) (K : Nat → Int32) (x : Int32) (y : Int32) (A : Nat → Prop) : Array Value → State → Outcome → State → Prop := va_Qi (po_M_state k h0 pS pK pP pO pB th sz op rw bg lo cd wd rm rg rr pl lm nx av sp le la S K x y) (fun uu t => ∃ zz, ex_M_state k h0 pS pK pP pO pB th sz op rw bg lo cd wd rm rg rr pl lm nx av sp le la S K x y zz uu ∧ GP D A (wo_M_state k h0 pS pK pP pO pB th sz op rw bg lo cd wd rm rg rr pl lm nx av sp le la S K x y zz uu) t) A
set_option maxHeartbeats 1000000 in
set_option maxRecDepth 100000 in
theorem c_M_state (l : Launch) (hl9 : l.stackTraces = false) (D : va_G) (k : gK) (h0 pS pK : Nat) (zsz : Nat) (pP : Nat) (pO : Nat) (pB : Nat) (th : Int32) (sz : Int32) (op : Int32) (rw : Int32) (bg : Int32) (lo : Int32) (cd : Int32) (wd : Int32) (rm : Int32) (rg : Int32) (rr : Int32) (pl : Int32) (lm : Int32) (nx : Int32) (av : Int64) (sp : Int32) (le : Int32) (la : Int32) (S : Nat → Int32) (K : Nat → Int32) (x : Int32) (y : Int32) : Met l y_Mdl_state (.code y_Mdl_state b_Mdl_state 4 (some .int) :: AW) ({ frames := 1, cells := 0, slots := 0, locals := 23 }) (va_Pc [.ref h0, .int x, .int y] (GG D k [(h0, .inr (9, [.ref pP, .ref pO, .int th, .int sz, .ref pB, .ref pS, .ref pK, .int op, .int rw, .int bg, .int lo, .int cd, .int wd, .int rm, .int rg, .int rr, .int pl, .int lm, .int nx, .long av, .int sp, .int le, .int la])), (pS, .inl (k.1, 38, .inl S)), (pK, .inl (k.1, 38, .inl K))] zsz)) (qc_M_state D k h0 pS pK pP pO pB th sz op rw bg lo cd wd rm rg rr pl lm nx av sp le la S K x y (va_A [(h0, .inr (9, [.ref pP, .ref pO, .int th, .int sz, .ref pB, .ref pS, .ref pK, .int op, .int rw, .int bg, .int lo, .int cd, .int wd, .int rm, .int rg, .int rr, .int pl, .int lm, .int nx, .long av, .int sp, .int le, .int la])), (pS, .inl (k.1, 38, .inl S)), (pK, .inl (k.1, 38, .inl K))] zsz)) 0 0 (va_A [(h0, .inr (9, [.ref pP, .ref pO, .int th, .int sz, .ref pB, .ref pS, .ref pK, .int op, .int rw, .int bg, .int lo, .int cd, .int wd, .int rm, .int rg, .int rr, .int pl, .int lm, .int nx, .long av, .int sp, .int le, .int la])), (pS, .inl (k.1, 38, .inl S)), (pK, .inl (k.1, 38, .inl K))] zsz) := by
  refine kMet (ws := [(h0, .inr (9, [.ref pP, .ref pO, .int th, .int sz, .ref pB, .ref pS, .ref pK, .int op, .int rw, .int bg, .int lo, .int cd, .int wd, .int rm, .int rg, .int rr, .int pl, .int lm, .int nx, .long av, .int sp, .int le, .int la])), (pS, .inl (k.1, 38, .inl S)), (pK, .inl (k.1, 38, .inl K))]) (Qc := qc_M_state D k h0 pS pK pP pO pB th sz op rw bg lo cd wd rm rg rr pl lm nx av sp le la S K x y) (by decide) (Nat.le_of_ble_eq_true rfl) (fun p e s m below meth c ls A H Cc hP hD hA hS hl => ?_)
  obtain ⟨hx, hb, hml, hr, hlk, hown, hts, hK, hE, hin⟩ := Cc
  have hl : lv_has ls 4 [(0, .ref h0), (1, .int x), (2, .int y)] := hl
  refine lv_aload_n hx hb d_Mdl_state_0 rfl (lv_at hl 0 rfl) ?_
  refine lv_iload_n hx hb d_Mdl_state_1 rfl (lv_at hl 2 rfl) ?_
  refine lv_iconst (v := 0) hx hb d_Mdl_state_2 (by decide) ?_
  refine lv_bipush (v := 18) hx hb d_Mdl_state_3 (by decide) ?_
  refine kqi (va_runS (As := [.int y, .int 0, .int 18]) (rest := [.ref h0]) ⟨hx, hb, hml, hown, hts⟩ (c_M_out l hl9 D k  y 0 18 ) (cwS 3 hts (gS mw_368 mw_369 mw_331 mw_370) rfl rfl rfl (by decide +kernel) ⟨(Nat.le_of_ble_eq_true rfl), (Nat.le_of_ble_eq_true rfl)⟩) (kPreR (wc := []) hE hK hP hS [] rfl) rfl rfl hl.1 rfl (lv_room (Nat.le_of_ble_eq_true rfl)) d_Mdl_state_5 ⟨(Nat.le_of_ble_eq_true rfl), (Nat.le_of_ble_eq_true rfl)⟩) hP hS (fun r1 H locs hw hP hS => ?_)
  replace hw := hw.symm
  subst hw
  refine lv_iconst (v := 0) hx hb d_Mdl_state_8 (by decide) ?_
  refine lv_iconst (v := 0) hx hb d_Mdl_state_9 (by decide) ?_
  refine kci (wc := [(h0, .inr (9, [.ref pP, .ref pO, .int th, .int sz, .ref pB, .ref pS, .ref pK, .int op, .int rw, .int bg, .int lo, .int cd, .int wd, .int rm, .int rg, .int rr, .int pl, .int lm, .int nx, .long av, .int sp, .int le, .int la]))]) (wr := [(pS, .inl (k.1, 38, .inl S)), (pK, .inl (k.1, 38, .inl K))]) (va_runV (As := [.int (mot y 0 18), .int 0, .int 0]) (rest := []) ⟨hx, hb, hml, hown, hts⟩ (c_M_throwing l hl9 D k h0 H.size pP pO pB pS pK th sz op rw bg lo cd wd rm rg rr pl lm nx av sp le la (mot y 0 18) 0 0 ) (cwV 3 hts (gV mw_372 mw_373 mw_374 mw_331 mw_375) rfl rfl rfl (by decide +kernel) ⟨(Nat.le_of_ble_eq_true rfl), (Nat.le_of_ble_eq_true rfl)⟩) (kRecv (q := (R_Mdl, T_Mdl, 23)) (q0 := 0) (ci := 9) hK hP rfl rfl (kPre (wc := [(h0, .inr (9, [.ref pP, .ref pO, .int th, .int sz, .ref pB, .ref pS, .ref pK, .int op, .int rw, .int bg, .int lo, .int cd, .int wd, .int rm, .int rg, .int rr, .int pl, .int lm, .int nx, .long av, .int sp, .int le, .int la]))]) hE hK hP hD hS hA [0] rfl (by decide))) rfl rfl hl.1 rfl (lv_room (Nat.le_of_ble_eq_true rfl)) d_Mdl_state_10 ⟨(Nat.le_of_ble_eq_true rfl), (Nat.le_of_ble_eq_true rfl)⟩) hP hD hS hA [0] [1, 2] rfl rfl (by decide) (by decide) (fun r3 zz uu H locs hw4 hz5 hP hD hS => ?_)
  obtain ⟨th_2, rfl⟩ : ∃ y, y = uu := ⟨_, rfl⟩
  have hw4 : r3 = mtb (mot y 0 18) 0 0 ∧ th_2 = mth (mot y 0 18) 0 0 := hw4
  have hP : va_P D vwCl [(pS, .inl (k.1, 38, .inl S)), (pK, .inl (k.1, 38, .inl K)), (h0, .inr (9, [.ref pP, .ref pO, .int th_2, .int sz, .ref pB, .ref pS, .ref pK, .int op, .int rw, .int bg, .int lo, .int cd, .int wd, .int rm, .int rg, .int rr, .int pl, .int lm, .int nx, .long av, .int sp, .int le, .int la]))] H := hP
  have hD : va_D A [(pS, .inl (k.1, 38, .inl S)), (pK, .inl (k.1, 38, .inl K)), (h0, .inr (9, [.ref pP, .ref pO, .int th_2, .int sz, .ref pB, .ref pS, .ref pK, .int op, .int rw, .int bg, .int lo, .int cd, .int wd, .int rm, .int rg, .int rr, .int pl, .int lm, .int nx, .long av, .int sp, .int le, .int la]))] := hD
  refine lv_if_eq (tgt := 18) hx hb d_Mdl_state_13 (by decide) (fun c6 => ?_) (fun c6 => ?_)
  · have hq7 := mtb_0 (hw4.1 ▸ c6)
    refine lv_iload_n hx hb d_Mdl_state_18 rfl (lv_at hl 1 rfl) ?_
    refine lv_if_eq (tgt := 29) hx hb d_Mdl_state_19 (by decide) (fun c8 => ?_) (fun c8 => ?_)
    · refine lv_iload_n hx hb d_Mdl_state_29 rfl (lv_at hl 2 rfl) ?_
      refine lv_istore_n (lv' := [(3, .int y), (0, .ref h0), (1, .int x), (2, .int y)]) hx hb d_Mdl_state_30 rfl hl (by decide) rfl (fun ls hl => ?_)
      refine lv_iconst (v := 2) hx hb d_Mdl_state_31 (by decide) ?_
      refine lv_aload_n hx hb d_Mdl_state_32 rfl (lv_at hl 1 rfl) ?_
      refine va_get (D := D) (ci := 9) (v := .ref pS) (C := R_Mdl) (T := T_Mdl) (N := 23) hx hb hts inw_Mdl hown hK hP 2 rfl rfl 5 (by decide) (hts (.fieldLink R_Mdl 20 "LikelyBitsModel" "states" "[I") mw_349) (fun _ h9 => h9) rfl d_Mdl_state_33 ?_
      refine lv_iload_n hx hb d_Mdl_state_36 rfl (lv_at hl 0 rfl) ?_
      refine va_iald hx hb hK hP 0 0 rfl rfl (mix_in2 (x := x) (mth_0 hq7).1 (by rw [mix, if_pos c8])) d_Mdl_state_37 ?_
      refine lv_imul hx hb d_Mdl_state_38 ?_
      refine lv_aload_n hx hb d_Mdl_state_39 rfl (lv_at hl 1 rfl) ?_
      refine va_get (D := D) (ci := 9) (v := .ref pK) (C := R_Mdl) (T := T_Mdl) (N := 23) hx hb hts inw_Mdl hown hK hP 2 rfl rfl 6 (by decide) (hts (.fieldLink R_Mdl 23 "LikelyBitsModel" "likely" "[I") mw_353) (fun _ h9 => h9) rfl d_Mdl_state_40 ?_
      refine lv_iload_n hx hb d_Mdl_state_43 rfl (lv_at hl 0 rfl) ?_
      refine va_iald hx hb hK hP 1 0 rfl rfl (mix_in2 (x := x) (mth_0 hq7).1 (by rw [mix, if_pos c8])) d_Mdl_state_44 ?_
      refine lv_iadd hx hb d_Mdl_state_45 ?_
      exact kri (wo := wo_M_state k h0 pS pK pP pO pB th sz op rw bg lo cd wd rm rg rr pl lm nx av sp le la S K x y) hx hb hr hlk hP hD hS th_2 () (by unfold po_M_state; rw [msc, if_pos hq7, mix, if_pos c8]; exact ⟨rfl, hw4.2⟩) trivial [2, 0, 1] rfl (by decide) (Nat.le_of_ble_eq_true rfl) (Nat.le_of_ble_eq_true rfl) d_Mdl_state_46
    · refine lv_bipush (v := 19) hx hb d_Mdl_state_22 (by decide) ?_
      refine lv_iload_n hx hb d_Mdl_state_24 rfl (lv_at hl 2 rfl) ?_
      refine lv_iadd hx hb d_Mdl_state_25 ?_
      refine lv_goto (tgt := 30) hx hb d_Mdl_state_26 (by decide) ?_
      refine lv_topi (fun x9 ex9 => ?_)
      refine lv_istore_n (lv' := [(3, .int x9), (0, .ref h0), (1, .int x), (2, .int y)]) hx hb d_Mdl_state_30 rfl hl (by decide) rfl (fun ls hl => ?_)
      refine lv_iconst (v := 2) hx hb d_Mdl_state_31 (by decide) ?_
      refine lv_aload_n hx hb d_Mdl_state_32 rfl (lv_at hl 1 rfl) ?_
      refine va_get (D := D) (ci := 9) (v := .ref pS) (C := R_Mdl) (T := T_Mdl) (N := 23) hx hb hts inw_Mdl hown hK hP 2 rfl rfl 5 (by decide) (hts (.fieldLink R_Mdl 20 "LikelyBitsModel" "states" "[I") mw_349) (fun _ h9 => h9) rfl d_Mdl_state_33 ?_
      refine lv_iload_n hx hb d_Mdl_state_36 rfl (lv_at hl 0 rfl) ?_
      refine va_iald hx hb hK hP 0 0 rfl rfl (mix_in2 (x := x) (mth_0 hq7).1 (by rw [mix, if_neg c8, ex9])) d_Mdl_state_37 ?_
      refine lv_imul hx hb d_Mdl_state_38 ?_
      refine lv_aload_n hx hb d_Mdl_state_39 rfl (lv_at hl 1 rfl) ?_
      refine va_get (D := D) (ci := 9) (v := .ref pK) (C := R_Mdl) (T := T_Mdl) (N := 23) hx hb hts inw_Mdl hown hK hP 2 rfl rfl 6 (by decide) (hts (.fieldLink R_Mdl 23 "LikelyBitsModel" "likely" "[I") mw_353) (fun _ h9 => h9) rfl d_Mdl_state_40 ?_
      refine lv_iload_n hx hb d_Mdl_state_43 rfl (lv_at hl 0 rfl) ?_
      refine va_iald hx hb hK hP 1 0 rfl rfl (mix_in2 (x := x) (mth_0 hq7).1 (by rw [mix, if_neg c8, ex9])) d_Mdl_state_44 ?_
      refine lv_iadd hx hb d_Mdl_state_45 ?_
      exact kri (wo := wo_M_state k h0 pS pK pP pO pB th sz op rw bg lo cd wd rm rg rr pl lm nx av sp le la S K x y) hx hb hr hlk hP hD hS th_2 () (by unfold po_M_state; rw [msc, if_pos hq7, mix, if_neg c8, ex9]; exact ⟨rfl, hw4.2⟩) trivial [2, 0, 1] rfl (by decide) (Nat.le_of_ble_eq_true rfl) (Nat.le_of_ble_eq_true rfl) d_Mdl_state_46
  · have hq10 := mtb_n (hw4.1 ▸ c6)
    refine lv_iconst (v := 0) hx hb d_Mdl_state_16 (by decide) ?_
    exact kri (wo := wo_M_state k h0 pS pK pP pO pB th sz op rw bg lo cd wd rm rg rr pl lm nx av sp le la S K x y) hx hb hr hlk hP hD hS th_2 () (by unfold po_M_state; rw [msc, if_neg hq10]; exact ⟨rfl, hw4.2⟩) trivial [2, 0, 1] rfl (by decide) (Nat.le_of_ble_eq_true rfl) (Nat.le_of_ble_eq_true rfl) d_Mdl_state_17

def wo_M_doublings (k : gK) (x : Int32) (zz : Unit) (uu : Unit) : va_W := match zz, uu with
  | _, _ => []
def ex_M_doublings (k : gK) (x : Int32) (zz : Unit) (uu : Unit) : Prop := match zz, uu with
  | _, _ => True
def po_M_doublings (k : gK) (x : Int32) (r : Int32) (uu : Unit) : Prop := match uu with
  | _ => r = mdb 15 x 0
def qc_M_doublings (D : va_G) (k : gK) (x : Int32) (A : Nat → Prop) : Array Value → State → Outcome → State → Prop := va_Qi (po_M_doublings k x) (fun uu t => ∃ zz, ex_M_doublings k x zz uu ∧ GP D A (wo_M_doublings k x zz uu) t) A
set_option maxHeartbeats 1000000 in
set_option maxRecDepth 100000 in
theorem lp_M_doublings_4 (l : Launch) (hl9 : l.stackTraces = false) (D : va_G) (k : gK) (x : Int32) {p : Program} {e : Env} {s : State} {m : MethodId} {below : List Frame} {meth : Method} {c : Code} {A : Nat → Prop} (Cc : Cx p s m ([.int x] : List Value).toArray meth c b_Mdl_doublings 3 (some .int) y_Mdl_doublings.cls y_Mdl_doublings.name D k A) (hA : ∀ q : Nat, s.heap.size ≤ q → A q) :
    ∀ (t : Nat) (w1 : Int32) (n1 : Int32), (mdb 15 x 0 = mdb t w1 n1) → (wdk t w1) → ∀ (H : Heap) (locs : List Loc) (cells slots : Nat), cells = 0 ∧ slots = 0 → va_P D vwCl [] H → va_D A [] → va_S A s.heap H locs → ∀ ls : Array Slot, lv_has ls 3 [(2, .int w1), (1, .int n1)] → W p l e ({ frames := 0, cells := 0, slots := 0, locals := 0 }) s m ([.int x] : List Value).toArray below meth c H locs cells slots (MQ below (qc_M_doublings D k x A) ([.int x] : List Value).toArray s 0 0 A) (F0 m 4 ls []) := by
  have Cc9 := Cc
  obtain ⟨hx, hb, hml, hr, hlk, hown, hts, hK, hE, hin⟩ := Cc
  intro t
  induction t with
  | zero =>
    intro w1 n1 hF hwk H locs cells slots hrm hP hD hS ls hl
    refine lv_iload_n hx hb d_Mdl_doublings_4 rfl (lv_at hl 0 rfl) ?_
    refine lv_ldc (v := 32768) hx hb hown (hts (.constant R_Mdl 52 32768) mw_377) d_Mdl_doublings_5 ?_
    refine lv_icmp_ge (tgt := 20) hx hb d_Mdl_doublings_7 (by decide) (fun c1 => ?_) (fun c1 => ?_)
    · refine lv_iload_n hx hb d_Mdl_doublings_20 rfl (lv_at hl 1 rfl) ?_
      exact kri (wo := wo_M_doublings k x) hx hb hr hlk hP hD hS () () (by unfold po_M_doublings; rw [hF]; rfl) trivial [] rfl (by decide) (by omega) (by omega) d_Mdl_doublings_21
    · exact absurd (wdk_0 hwk) c1
  | succ t ih =>
    intro w1 n1 hF hwk H locs cells slots hrm hP hD hS ls hl
    refine lv_iload_n hx hb d_Mdl_doublings_4 rfl (lv_at hl 0 rfl) ?_
    refine lv_ldc (v := 32768) hx hb hown (hts (.constant R_Mdl 52 32768) mw_377) d_Mdl_doublings_5 ?_
    refine lv_icmp_ge (tgt := 20) hx hb d_Mdl_doublings_7 (by decide) (fun c2 => ?_) (fun c2 => ?_)
    · refine lv_iload_n hx hb d_Mdl_doublings_20 rfl (lv_at hl 1 rfl) ?_
      exact kri (wo := wo_M_doublings k x) hx hb hr hlk hP hD hS () () (by unfold po_M_doublings; rw [hF, mdb, if_pos c2]) trivial [] rfl (by decide) (by omega) (by omega) d_Mdl_doublings_21
    · refine lv_iload_n hx hb d_Mdl_doublings_10 rfl (lv_at hl 0 rfl) ?_
      refine lv_iload_n hx hb d_Mdl_doublings_11 rfl (lv_at hl 0 rfl) ?_
      refine lv_iadd hx hb d_Mdl_doublings_12 ?_
      refine lv_topi (fun x3 ex3 => ?_)
      refine lv_istore_n (lv' := [(2, .int x3), (1, .int n1)]) hx hb d_Mdl_doublings_13 rfl hl (by decide) rfl (fun ls hl => ?_)
      obtain ⟨x4, ex4⟩ : ∃ y : Int32, y = n1 + 1 := ⟨_, rfl⟩
      refine lv_iinc (v := x4) (lv' := [(1, .int x4), (2, .int x3)]) hx hb d_Mdl_doublings_14 hl (k := 1) rfl (by rw [ex4]; rfl) (by decide) rfl (fun ls hl => ?_)
      refine lv_goto (tgt := 4) hx hb d_Mdl_doublings_17 (by decide) ?_
      exact ih x3 x4 (by subst ex4; subst ex3; rw [hF, mdb, if_neg c2]) (by rw [ex3]; exact wdk_s hwk c2) H _ _ _ (by exact ⟨by omega, by omega⟩) (ka_P hP (is := []) rfl) (hD.sub [] (by decide) rfl) hS ls (lv_sub hl [1, 0] rfl)
set_option maxHeartbeats 1000000 in
set_option maxRecDepth 100000 in
theorem c_M_doublings (l : Launch) (hl9 : l.stackTraces = false) (D : va_G) (k : gK) (zsz : Nat) (x : Int32) (hwk : wdk 15 x) : Met l y_Mdl_doublings (.code y_Mdl_doublings b_Mdl_doublings 3 (some .int) :: AW) ({ frames := 0, cells := 0, slots := 0, locals := 0 }) (va_Pc [.int x] (GG D k [] zsz)) (qc_M_doublings D k x (va_A [] zsz)) 0 0 (va_A [] zsz) := by
  refine kMet (ws := []) (Qc := qc_M_doublings D k x) (by decide) (Nat.le_of_ble_eq_true rfl) (fun p e s m below meth c ls A H Cc hP hD hA hS hl => ?_)
  have Cc9 := Cc
  obtain ⟨hx, hb, hml, hr, hlk, hown, hts, hK, hE, hin⟩ := Cc
  have hl : lv_has ls 3 [(0, .int x)] := hl
  refine lv_iconst (v := 0) hx hb d_Mdl_doublings_0 (by decide) ?_
  refine lv_istore_n (lv' := [(1, .int 0), (0, .int x)]) hx hb d_Mdl_doublings_1 rfl hl (by decide) rfl (fun ls hl => ?_)
  refine lv_iload_n hx hb d_Mdl_doublings_2 rfl (lv_at hl 1 rfl) ?_
  refine lv_istore_n (lv' := [(2, .int x), (1, .int 0), (0, .int x)]) hx hb d_Mdl_doublings_3 rfl hl (by decide) rfl (fun ls hl => ?_)
  exact lp_M_doublings_4 l hl9 D k  x Cc9 hA 15 x 0 rfl hwk H _ _ _ ⟨rfl, rfl⟩ (ka_P hP (is := []) rfl) (hD.sub [] (by decide) rfl) hS ls (lv_sub hl [0, 1] rfl)

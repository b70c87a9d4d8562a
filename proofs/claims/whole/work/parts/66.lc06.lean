set_option maxHeartbeats 1000000 in
set_option maxRecDepth 100000 in
theorem lc_447 (l : Launch) (hl9 : l.stackTraces = false) (D : va_G) (k : gK) {p : Program} {e : Env} {s : State} {m : MethodId} {below : List Frame} {meth : Method} {c : Code} {A : Nat → Prop} {b Ls : Nat} {xs : Nat → Int32} (Cc : Cx p s m #[Value.ref b] meth c b_Law_law 8 ret R_Law meth.name D k A) (hA : ∀ q : Nat, s.heap.size ≤ q → A q) (hX : va_X b Ls xs s s.heap) (hbl : b < s.heap.size) (hbA : ¬ A b) (hLs : Ls ≤ 2560) (h0 zr zc zf zg yc yf yg zs zw zv zt zd ze Mh pP pO pB pS pK qo : Nat) (cn : Nat) (i : Int32) (hi : i = nI (5 * cn)) (h5 : 5 * cn + 5 ≤ Ls) (ih : LCont l D k p e s m below meth c A b h0 zr zc zf zg yc yf yg zs zw zv zt zd ze Mh pP pO pB pS pK qo (cn + 1) i 827) : LCont l D k p e s m below meth c A b h0 zr zc zf zg yc yf yg zs zw zv zt zd ze Mh pP pO pB pS pK qo cn i 447 := by
  obtain ⟨hx, hb, hml, hr, hlk, hown, hts, hK, hE, hin⟩ := Cc
  intro za n f u L sf lf tf mf so sr dr dw a lo sz rm rw pl ln cm la va sy ry lb le Mth Msz op Mrw bg Mlo cd wd Mrm rg rr Mpl lm nx av sp Mle Mla MB S K fo hC hW hJ hR hM H locs cells slots hrm hP hD hS ls hl
  have hv1 : vp_in (i + 1) Ls := lw_ix (j := 1) hi h5 hLs (by decide)
  have hv2 : vp_in (i + 2) Ls := lw_ix (j := 2) hi h5 hLs (by decide)
  have hv3 : vp_in (i + 3) Ls := lw_ix (j := 3) hi h5 hLs (by decide)
  have hv4 : vp_in (i + 4) Ls := lw_ix (j := 4) hi h5 hLs (by decide)
  have hn := row_le hR
  have hu := hR.1
  have hz := hM.1
  have hlen := row_len hM
  have hcn : cn < 512 := by omega
  have hl : lv_has ls 8 [(0, .ref b), (1, .ref h0), (2, .ref Mh), (3, .ref qo), (4, .int i)] := hl
  obtain ⟨hbg, hv9⟩ := nd_write hC hW
  have hP : va_P D vwCl [(h0, .inr (8, [.ref zr, .ref zc, .ref yc, .ref zs, .ref zw, .ref zv, .ref zt, .ref zd, .ref ze, .int so, .int sr, .int dr, .int dw])), (zr, .inr (0, [.ref za, .int u])), (za, .inl (k.1, n, .inl f)), (zc, .inr (1, [.ref zf, .ref zg])), (zf, .inl (k.1, 19, .inl sf)), (zg, .inl (k.1, 19, .inl lf)), (yc, .inr (1, [.ref yf, .ref yg])), (yf, .inl (k.1, 19, .inl tf)), (yg, .inl (k.1, 19, .inl mf)), (zs, .inr (2, [.ref zr, .int a])), (zw, .inr (4, [.ref zs, .ref zc, .int lo, .int sz, .int rm])), (zv, .inr (6, [.ref zs, .int rw])), (zt, .inr (3, [.ref zr, .int pl, .int ln, .int cm])), (zd, .inr (5, [.ref zt, .ref yc, .int la, .int va, .int sy, .int ry])), (ze, .inr (7, [.ref zt, .int lb, .int le])), (Mh, .inr (9, [.ref pP, .ref pO, .int Mth, .int Msz, .ref pB, .ref pS, .ref pK, .int op, .int Mrw, .int bg, .int Mlo, .int cd, .int wd, .int Mrm, .int rg, .int rr, .int Mpl, .int lm, .int nx, .long av, .int sp, .int Mle, .int Mla])), (pP, .inl (k.1, 47, .inl tfP)), (pO, .inl (k.1, 47, .inl tfO)), (pB, .inl (k.1, 65536, .inl MB)), (pS, .inl (k.1, 38, .inl S)), (pK, .inl (k.1, 38, .inl K)), (qo, .inl (k.2.1, 1, .inr (.inl fo)))] H := hP
  have hD : va_D A [(h0, .inr (8, [.ref zr, .ref zc, .ref yc, .ref zs, .ref zw, .ref zv, .ref zt, .ref zd, .ref ze, .int so, .int sr, .int dr, .int dw])), (zr, .inr (0, [.ref za, .int u])), (za, .inl (k.1, n, .inl f)), (zc, .inr (1, [.ref zf, .ref zg])), (zf, .inl (k.1, 19, .inl sf)), (zg, .inl (k.1, 19, .inl lf)), (yc, .inr (1, [.ref yf, .ref yg])), (yf, .inl (k.1, 19, .inl tf)), (yg, .inl (k.1, 19, .inl mf)), (zs, .inr (2, [.ref zr, .int a])), (zw, .inr (4, [.ref zs, .ref zc, .int lo, .int sz, .int rm])), (zv, .inr (6, [.ref zs, .int rw])), (zt, .inr (3, [.ref zr, .int pl, .int ln, .int cm])), (zd, .inr (5, [.ref zt, .ref yc, .int la, .int va, .int sy, .int ry])), (ze, .inr (7, [.ref zt, .int lb, .int le])), (Mh, .inr (9, [.ref pP, .ref pO, .int Mth, .int Msz, .ref pB, .ref pS, .ref pK, .int op, .int Mrw, .int bg, .int Mlo, .int cd, .int wd, .int Mrm, .int rg, .int rr, .int Mpl, .int lm, .int nx, .long av, .int sp, .int Mle, .int Mla])), (pP, .inl (k.1, 47, .inl tfP)), (pO, .inl (k.1, 47, .inl tfO)), (pB, .inl (k.1, 65536, .inl MB)), (pS, .inl (k.1, 38, .inl S)), (pK, .inl (k.1, 38, .inl K)), (qo, .inl (k.2.1, 1, .inr (.inl fo)))] := hD
  refine lv_aload_n hx hb d_Law_law_447 rfl (lv_at hl 1 rfl) ?_
  refine lv_aload_n hx hb d_Law_law_448 rfl (lv_at hl 0 rfl) ?_
  refine lv_iload hx hb d_Law_law_449 (lv_at hl 4 rfl) ?_
  refine lv_iconst (v := 1) hx hb d_Law_law_451 (by decide) ?_
  refine lv_iadd hx hb d_Law_law_452 ?_
  refine va_sld hx hb hX hbl hbA hS hv1 d_Law_law_453 ?_
  refine lv_topi (fun v1 ev1 => ?_)
  refine lv_aload_n hx hb d_Law_law_454 rfl (lv_at hl 0 rfl) ?_
  refine lv_iload hx hb d_Law_law_455 (lv_at hl 4 rfl) ?_
  refine lv_iconst (v := 2) hx hb d_Law_law_457 (by decide) ?_
  refine lv_iadd hx hb d_Law_law_458 ?_
  refine va_sld hx hb hX hbl hbA hS hv2 d_Law_law_459 ?_
  refine lv_topi (fun v2 ev2 => ?_)
  refine lv_i2l (v := v2.toInt64) hx hb d_Law_law_460 rfl ?_
  refine lv_bipush (v := 32) hx hb d_Law_law_461 (by decide) ?_
  refine lv_lshl (v := v2.toInt64 <<< ((32 : Int32).toInt64 &&& 63)) hx hb d_Law_law_463 rfl ?_
  refine lv_aload_n hx hb d_Law_law_464 rfl (lv_at hl 0 rfl) ?_
  refine lv_iload hx hb d_Law_law_465 (lv_at hl 4 rfl) ?_
  refine lv_iconst (v := 3) hx hb d_Law_law_467 (by decide) ?_
  refine lv_iadd hx hb d_Law_law_468 ?_
  refine va_sld hx hb hX hbl hbA hS hv3 d_Law_law_469 ?_
  refine lv_topi (fun v3 ev3 => ?_)
  refine lv_i2l (v := v3.toInt64) hx hb d_Law_law_470 rfl ?_
  refine lv_ldc2 (v := 4294967295) hx hb hown (hts (.constantLong R_Law 87 4294967295) mw_517) d_Law_law_471 ?_
  refine lv_land hx hb d_Law_law_474 ?_
  refine lv_lor hx hb d_Law_law_475 ?_
  refine lv_topl (fun w4 ew4 => ?_)
  refine lv_aload_n hx hb d_Law_law_476 rfl (lv_at hl 0 rfl) ?_
  refine lv_iload hx hb d_Law_law_477 (lv_at hl 4 rfl) ?_
  refine lv_iconst (v := 4) hx hb d_Law_law_479 (by decide) ?_
  refine lv_iadd hx hb d_Law_law_480 ?_
  refine va_sld hx hb hX hbl hbA hS hv4 d_Law_law_481 ?_
  refine lv_topi (fun v5 ev5 => ?_)
  refine lv_aload_n hx hb d_Law_law_482 rfl (lv_at hl 3 rfl) ?_
  by_cases hcz : wre so sr v1 v5 u = 0
  · have hq1 := wlp_hi v5.toNatClampNeg sr a v1 w4 lo sz rm rw sf lf n L (show n ≤ 131072 by omega)
    have hq2 := wlp_le v5.toNatClampNeg sr a v1 w4 lo sz rm rw sf lf n L
    refine kci (wc := [(h0, .inr (8, [.ref zr, .ref zc, .ref yc, .ref zs, .ref zw, .ref zv, .ref zt, .ref zd, .ref ze, .int so, .int sr, .int dr, .int dw])), (zr, .inr (0, [.ref za, .int u])), (za, .inl (k.1, n, .inl f)), (zc, .inr (1, [.ref zf, .ref zg])), (zf, .inl (k.1, 19, .inl sf)), (zg, .inl (k.1, 19, .inl lf)), (yc, .inr (1, [.ref yf, .ref yg])), (yf, .inl (k.1, 19, .inl tf)), (yg, .inl (k.1, 19, .inl mf)), (zs, .inr (2, [.ref zr, .int a])), (zw, .inr (4, [.ref zs, .ref zc, .int lo, .int sz, .int rm])), (zv, .inr (6, [.ref zs, .int rw])), (zt, .inr (3, [.ref zr, .int pl, .int ln, .int cm])), (zd, .inr (5, [.ref zt, .ref yc, .int la, .int va, .int sy, .int ry])), (ze, .inr (7, [.ref zt, .int lb, .int le])), (qo, .inl (k.2.1, 1, .inr (.inl fo)))]) (wr := [(Mh, .inr (9, [.ref pP, .ref pO, .int Mth, .int Msz, .ref pB, .ref pS, .ref pK, .int op, .int Mrw, .int bg, .int Mlo, .int cd, .int wd, .int Mrm, .int rg, .int rr, .int Mpl, .int lm, .int nx, .long av, .int sp, .int Mle, .int Mla])), (pP, .inl (k.1, 47, .inl tfP)), (pO, .inl (k.1, 47, .inl tfO)), (pB, .inl (k.1, 65536, .inl MB)), (pS, .inl (k.1, 38, .inl S)), (pK, .inl (k.1, 38, .inl K))]) (vx_runSW (As := [.ref h0, .int v1, .long w4, .int v5, .ref qo]) (rest := []) ⟨hx, hb, hml, hown, hts⟩ (c_Law_write l hl9 D k h0 zr za zc zf zg yc yf yg zs zw zv zt zd ze qo H.size so sr dr dw n f u L sf lf tf mf a lo sz rm rw pl ln cm la va sy ry lb le fo v1 w4 v5 (by assumption)) (vx_cwSW 5 hts (gSW mw_518 mw_519 mw_479 mw_520) rfl rfl rfl (by decide +kernel) ⟨(Nat.le_of_ble_eq_true rfl), (Nat.le_of_ble_eq_true rfl)⟩) (kPre (wc := [(h0, .inr (8, [.ref zr, .ref zc, .ref yc, .ref zs, .ref zw, .ref zv, .ref zt, .ref zd, .ref ze, .int so, .int sr, .int dr, .int dw])), (zr, .inr (0, [.ref za, .int u])), (za, .inl (k.1, n, .inl f)), (zc, .inr (1, [.ref zf, .ref zg])), (zf, .inl (k.1, 19, .inl sf)), (zg, .inl (k.1, 19, .inl lf)), (yc, .inr (1, [.ref yf, .ref yg])), (yf, .inl (k.1, 19, .inl tf)), (yg, .inl (k.1, 19, .inl mf)), (zs, .inr (2, [.ref zr, .int a])), (zw, .inr (4, [.ref zs, .ref zc, .int lo, .int sz, .int rm])), (zv, .inr (6, [.ref zs, .int rw])), (zt, .inr (3, [.ref zr, .int pl, .int ln, .int cm])), (zd, .inr (5, [.ref zt, .ref yc, .int la, .int va, .int sy, .int ry])), (ze, .inr (7, [.ref zt, .int lb, .int le])), (qo, .inl (k.2.1, 1, .inr (.inl fo)))]) hE hK hP hD hS hA [0, 1, 2, 3, 4, 5, 6, 7, 8, 9, 10, 11, 12, 13, 14, 21] rfl (by decide)) rfl rfl hl.1 rfl (lv_room (Nat.le_of_ble_eq_true rfl)) d_Law_law_483 ⟨(by show _ ≤ 601024; omega), (by show _ ≤ 7293034; omega)⟩) hP hD hS hA [0, 1, 2, 3, 4, 5, 6, 7, 8, 9, 10, 11, 12, 13, 14, 21] [15, 16, 17, 18, 19, 20] rfl rfl (by decide) (by decide) (fun r18 zz uu H locs hw19 hz20 hP hD hS => ?_)
    obtain ⟨q_15, f_16, u_17⟩ := zz
    obtain ⟨lo_6, sz_7, rm_8, rw_9, sf_10, lf_11, n_12, L_13, fo_14⟩ := uu
    have hw19 : r18 = wre so sr v1 v5 u ∧ (wre so sr v1 v5 u = 0 → lo_6 = (wlp v5.toNatClampNeg sr a v1 w4 lo sz rm rw sf lf n L).1 ∧ sz_7 = (wlp v5.toNatClampNeg sr a v1 w4 lo sz rm rw sf lf n L).2.1 ∧ rm_8 = (wlp v5.toNatClampNeg sr a v1 w4 lo sz rm rw sf lf n L).2.2.1 ∧ rw_9 = (wlp v5.toNatClampNeg sr a v1 w4 lo sz rm rw sf lf n L).2.2.2.1 ∧ sf_10 = (wlp v5.toNatClampNeg sr a v1 w4 lo sz rm rw sf lf n L).2.2.2.2.1 ∧ lf_11 = (wlp v5.toNatClampNeg sr a v1 w4 lo sz rm rw sf lf n L).2.2.2.2.2.1 ∧ n_12 = (wlp v5.toNatClampNeg sr a v1 w4 lo sz rm rw sf lf n L).2.2.2.2.2.2.1 ∧ L_13 = (wlp v5.toNatClampNeg sr a v1 w4 lo sz rm rw sf lf n L).2.2.2.2.2.2.2 ∧ fo_14 0 = (nI L_13.length - a).toInt64) ∧ (¬ wre so sr v1 v5 u = 0 → lo_6 = lo ∧ sz_7 = sz ∧ rm_8 = rm ∧ rw_9 = rw ∧ sf_10 = sf ∧ lf_11 = lf ∧ n_12 = n ∧ L_13 = L ∧ fo_14 = fo) := hw19
    have hz20 : row_ok n_12 f_16 u_17 L_13 := hz20
    have hP : va_P D vwCl [(Mh, .inr (9, [.ref pP, .ref pO, .int Mth, .int Msz, .ref pB, .ref pS, .ref pK, .int op, .int Mrw, .int bg, .int Mlo, .int cd, .int wd, .int Mrm, .int rg, .int rr, .int Mpl, .int lm, .int nx, .long av, .int sp, .int Mle, .int Mla])), (pP, .inl (k.1, 47, .inl tfP)), (pO, .inl (k.1, 47, .inl tfO)), (pB, .inl (k.1, 65536, .inl MB)), (pS, .inl (k.1, 38, .inl S)), (pK, .inl (k.1, 38, .inl K)), (h0, .inr (8, [.ref zr, .ref zc, .ref yc, .ref zs, .ref zw, .ref zv, .ref zt, .ref zd, .ref ze, .int so, .int sr, .int dr, .int dw])), (zr, .inr (0, [.ref q_15, .int u_17])), (q_15, .inl (k.1, n_12, .inl f_16)), (zc, .inr (1, [.ref zf, .ref zg])), (zf, .inl (k.1, 19, .inl sf_10)), (zg, .inl (k.1, 19, .inl lf_11)), (yc, .inr (1, [.ref yf, .ref yg])), (yf, .inl (k.1, 19, .inl tf)), (yg, .inl (k.1, 19, .inl mf)), (zs, .inr (2, [.ref zr, .int a])), (zw, .inr (4, [.ref zs, .ref zc, .int lo_6, .int sz_7, .int rm_8])), (zv, .inr (6, [.ref zs, .int rw_9])), (zt, .inr (3, [.ref zr, .int pl, .int ln, .int cm])), (zd, .inr (5, [.ref zt, .ref yc, .int la, .int va, .int sy, .int ry])), (ze, .inr (7, [.ref zt, .int lb, .int le])), (qo, .inl (k.2.1, 1, .inr (.inl fo_14)))] H := hP
    have hD : va_D A [(Mh, .inr (9, [.ref pP, .ref pO, .int Mth, .int Msz, .ref pB, .ref pS, .ref pK, .int op, .int Mrw, .int bg, .int Mlo, .int cd, .int wd, .int Mrm, .int rg, .int rr, .int Mpl, .int lm, .int nx, .long av, .int sp, .int Mle, .int Mla])), (pP, .inl (k.1, 47, .inl tfP)), (pO, .inl (k.1, 47, .inl tfO)), (pB, .inl (k.1, 65536, .inl MB)), (pS, .inl (k.1, 38, .inl S)), (pK, .inl (k.1, 38, .inl K)), (h0, .inr (8, [.ref zr, .ref zc, .ref yc, .ref zs, .ref zw, .ref zv, .ref zt, .ref zd, .ref ze, .int so, .int sr, .int dr, .int dw])), (zr, .inr (0, [.ref q_15, .int u_17])), (q_15, .inl (k.1, n_12, .inl f_16)), (zc, .inr (1, [.ref zf, .ref zg])), (zf, .inl (k.1, 19, .inl sf_10)), (zg, .inl (k.1, 19, .inl lf_11)), (yc, .inr (1, [.ref yf, .ref yg])), (yf, .inl (k.1, 19, .inl tf)), (yg, .inl (k.1, 19, .inl mf)), (zs, .inr (2, [.ref zr, .int a])), (zw, .inr (4, [.ref zs, .ref zc, .int lo_6, .int sz_7, .int rm_8])), (zv, .inr (6, [.ref zs, .int rw_9])), (zt, .inr (3, [.ref zr, .int pl, .int ln, .int cm])), (zd, .inr (5, [.ref zt, .ref yc, .int la, .int va, .int sy, .int ry])), (ze, .inr (7, [.ref zt, .int lb, .int le])), (qo, .inl (k.2.1, 1, .inr (.inl fo_14)))] := hD
    refine lv_istore (lv' := [(5, .int r18), (0, .ref b), (1, .ref h0), (2, .ref Mh), (3, .ref qo), (4, .int i)]) hx hb d_Law_law_486 hl (by decide) rfl (fun ls hl => ?_)
    refine lv_aload_n hx hb d_Law_law_488 rfl (lv_at hl 3 rfl) ?_
    refine lv_aload_n hx hb d_Law_law_489 rfl (lv_at hl 1 rfl) ?_
    refine lv_iload hx hb d_Law_law_490 (lv_at hl 5 rfl) ?_
    refine lv_iconst (v := 1) hx hb d_Law_law_492 (by decide) ?_
    refine lv_iadd hx hb d_Law_law_493 ?_
    refine va_sld hx hb hX hbl hbA hS hv1 d_Law_law_494 ?_
    refine lv_topi (fun v21 ev21 => ?_)
    obtain rfl : v1 = v21 := ev1.trans ev21.symm
    refine lv_aload_n hx hb d_Law_law_495 rfl (lv_at hl 1 rfl) ?_
    refine lv_iload hx hb d_Law_law_496 (lv_at hl 5 rfl) ?_
    refine lv_iconst (v := 2) hx hb d_Law_law_498 (by decide) ?_
    refine lv_iadd hx hb d_Law_law_499 ?_
    refine va_sld hx hb hX hbl hbA hS hv2 d_Law_law_500 ?_
    refine lv_topi (fun v22 ev22 => ?_)
    obtain rfl : v2 = v22 := ev2.trans ev22.symm
    refine lv_i2l (v := v2.toInt64) hx hb d_Law_law_501 rfl ?_
    refine lv_bipush (v := 32) hx hb d_Law_law_502 (by decide) ?_
    refine lv_lshl (v := v2.toInt64 <<< ((32 : Int32).toInt64 &&& 63)) hx hb d_Law_law_504 rfl ?_
    refine lv_aload_n hx hb d_Law_law_505 rfl (lv_at hl 1 rfl) ?_
    refine lv_iload hx hb d_Law_law_506 (lv_at hl 5 rfl) ?_
    refine lv_iconst (v := 3) hx hb d_Law_law_508 (by decide) ?_
    refine lv_iadd hx hb d_Law_law_509 ?_
    refine va_sld hx hb hX hbl hbA hS hv3 d_Law_law_510 ?_
    refine lv_topi (fun v23 ev23 => ?_)
    obtain rfl : v3 = v23 := ev3.trans ev23.symm
    refine lv_i2l (v := v3.toInt64) hx hb d_Law_law_511 rfl ?_
    refine lv_ldc2 (v := 4294967295) hx hb hown (hts (.constantLong R_Law 87 4294967295) mw_517) d_Law_law_512 ?_
    refine lv_land hx hb d_Law_law_515 ?_
    refine lv_lor hx hb d_Law_law_516 ?_
    refine lv_topl (fun w24 ew24 => ?_)
    obtain rfl : w4 = w24 := ew4.trans ew24.symm
    refine lv_aload_n hx hb d_Law_law_517 rfl (lv_at hl 1 rfl) ?_
    refine lv_iload hx hb d_Law_law_518 (lv_at hl 5 rfl) ?_
    refine lv_iconst (v := 4) hx hb d_Law_law_520 (by decide) ?_
    refine lv_iadd hx hb d_Law_law_521 ?_
    refine va_sld hx hb hX hbl hbA hS hv4 d_Law_law_522 ?_
    refine lv_topi (fun v25 ev25 => ?_)
    obtain rfl : v5 = v25 := ev5.trans ev25.symm
    refine kci (wc := [(Mh, .inr (9, [.ref pP, .ref pO, .int Mth, .int Msz, .ref pB, .ref pS, .ref pK, .int op, .int Mrw, .int bg, .int Mlo, .int cd, .int wd, .int Mrm, .int rg, .int rr, .int Mpl, .int lm, .int nx, .long av, .int sp, .int Mle, .int Mla])), (pP, .inl (k.1, 47, .inl tfP)), (pO, .inl (k.1, 47, .inl tfO)), (pB, .inl (k.1, 65536, .inl MB)), (pS, .inl (k.1, 38, .inl S)), (pK, .inl (k.1, 38, .inl K))]) (wr := [(h0, .inr (8, [.ref zr, .ref zc, .ref yc, .ref zs, .ref zw, .ref zv, .ref zt, .ref zd, .ref ze, .int so, .int sr, .int dr, .int dw])), (zr, .inr (0, [.ref q_15, .int u_17])), (q_15, .inl (k.1, n_12, .inl f_16)), (zc, .inr (1, [.ref zf, .ref zg])), (zf, .inl (k.1, 19, .inl sf_10)), (zg, .inl (k.1, 19, .inl lf_11)), (yc, .inr (1, [.ref yf, .ref yg])), (yf, .inl (k.1, 19, .inl tf)), (yg, .inl (k.1, 19, .inl mf)), (zs, .inr (2, [.ref zr, .int a])), (zw, .inr (4, [.ref zs, .ref zc, .int lo_6, .int sz_7, .int rm_8])), (zv, .inr (6, [.ref zs, .int rw_9])), (zt, .inr (3, [.ref zr, .int pl, .int ln, .int cm])), (zd, .inr (5, [.ref zt, .ref yc, .int la, .int va, .int sy, .int ry])), (ze, .inr (7, [.ref zt, .int lb, .int le])), (qo, .inl (k.2.1, 1, .inr (.inl fo_14)))]) (va_runV (As := [.int v1, .long w4, .int v5]) (rest := []) ⟨hx, hb, hml, hown, hts⟩ (c_M_write l hl9 D k Mh pP pO pB pS pK H.size Mth Msz op Mrw bg Mlo cd wd Mrm rg rr Mpl lm nx av sp Mle Mla MB S K L v1 w4 v5 (by assumption) (by assumption) (by assumption)) (cwV 3 hts (gV mw_521 mw_522 mw_523 mw_331 mw_524) rfl rfl rfl (by decide +kernel) ⟨(Nat.le_of_ble_eq_true rfl), (Nat.le_of_ble_eq_true rfl)⟩) (kRecv (q := (R_Mdl, T_Mdl, 23)) (q0 := 0) (ci := 9) hK hP rfl rfl (kPre (wc := [(Mh, .inr (9, [.ref pP, .ref pO, .int Mth, .int Msz, .ref pB, .ref pS, .ref pK, .int op, .int Mrw, .int bg, .int Mlo, .int cd, .int wd, .int Mrm, .int rg, .int rr, .int Mpl, .int lm, .int nx, .long av, .int sp, .int Mle, .int Mla])), (pP, .inl (k.1, 47, .inl tfP)), (pO, .inl (k.1, 47, .inl tfO)), (pB, .inl (k.1, 65536, .inl MB)), (pS, .inl (k.1, 38, .inl S)), (pK, .inl (k.1, 38, .inl K))]) hE hK hP hD hS hA [0, 1, 2, 3, 4, 5] rfl (by decide))) rfl rfl hl.1 rfl (lv_room (Nat.le_of_ble_eq_true rfl)) d_Law_law_523 ⟨(by show _ ≤ 601024; omega), (by show _ ≤ 7293034; omega)⟩) hP hD hS hA [0, 1, 2, 3, 4, 5] [6, 7, 8, 9, 10, 11, 12, 13, 14, 15, 16, 17, 18, 19, 20, 21] rfl rfl (by decide) (by decide) (fun r36 zz uu H locs hw37 hz38 hP hD hS => ?_)
    obtain ⟨B_34, sz_35⟩ := zz
    obtain ⟨th_26, lo_27, cd_28, wd_29, rm_30, S_31, K_32, L_33⟩ := uu
    have hw37 : r36 = (if mwx op Mrw v1 v5 Msz ≤ 0 then nI L_33.length - bg else 0) ∧ th_26 = mwx op Mrw v1 v5 Msz ∧ lo_27 = (mwt op Mrw v1 v5 Msz bg w4 Mlo cd wd Mrm S K L).1 ∧ cd_28 = (mwt op Mrw v1 v5 Msz bg w4 Mlo cd wd Mrm S K L).2.1 ∧ wd_29 = (mwt op Mrw v1 v5 Msz bg w4 Mlo cd wd Mrm S K L).2.2.1 ∧ rm_30 = (mwt op Mrw v1 v5 Msz bg w4 Mlo cd wd Mrm S K L).2.2.2.1 ∧ S_31 = (mwt op Mrw v1 v5 Msz bg w4 Mlo cd wd Mrm S K L).2.2.2.2.1 ∧ K_32 = (mwt op Mrw v1 v5 Msz bg w4 Mlo cd wd Mrm S K L).2.2.2.2.2.1 ∧ L_33 = (mwt op Mrw v1 v5 Msz bg w4 Mlo cd wd Mrm S K L).2.2.2.2.2.2 := hw37
    have hz38 : row_ok 65536 B_34 sz_35 L_33 := hz38
    have hP : va_P D vwCl [(h0, .inr (8, [.ref zr, .ref zc, .ref yc, .ref zs, .ref zw, .ref zv, .ref zt, .ref zd, .ref ze, .int so, .int sr, .int dr, .int dw])), (zr, .inr (0, [.ref q_15, .int u_17])), (q_15, .inl (k.1, n_12, .inl f_16)), (zc, .inr (1, [.ref zf, .ref zg])), (zf, .inl (k.1, 19, .inl sf_10)), (zg, .inl (k.1, 19, .inl lf_11)), (yc, .inr (1, [.ref yf, .ref yg])), (yf, .inl (k.1, 19, .inl tf)), (yg, .inl (k.1, 19, .inl mf)), (zs, .inr (2, [.ref zr, .int a])), (zw, .inr (4, [.ref zs, .ref zc, .int lo_6, .int sz_7, .int rm_8])), (zv, .inr (6, [.ref zs, .int rw_9])), (zt, .inr (3, [.ref zr, .int pl, .int ln, .int cm])), (zd, .inr (5, [.ref zt, .ref yc, .int la, .int va, .int sy, .int ry])), (ze, .inr (7, [.ref zt, .int lb, .int le])), (qo, .inl (k.2.1, 1, .inr (.inl fo_14))), (Mh, .inr (9, [.ref pP, .ref pO, .int th_26, .int sz_35, .ref pB, .ref pS, .ref pK, .int op, .int Mrw, .int bg, .int lo_27, .int cd_28, .int wd_29, .int rm_30, .int rg, .int rr, .int Mpl, .int lm, .int nx, .long av, .int sp, .int Mle, .int Mla])), (pP, .inl (k.1, 47, .inl tfP)), (pO, .inl (k.1, 47, .inl tfO)), (pB, .inl (k.1, 65536, .inl B_34)), (pS, .inl (k.1, 38, .inl S_31)), (pK, .inl (k.1, 38, .inl K_32))] H := hP
    have hD : va_D A [(h0, .inr (8, [.ref zr, .ref zc, .ref yc, .ref zs, .ref zw, .ref zv, .ref zt, .ref zd, .ref ze, .int so, .int sr, .int dr, .int dw])), (zr, .inr (0, [.ref q_15, .int u_17])), (q_15, .inl (k.1, n_12, .inl f_16)), (zc, .inr (1, [.ref zf, .ref zg])), (zf, .inl (k.1, 19, .inl sf_10)), (zg, .inl (k.1, 19, .inl lf_11)), (yc, .inr (1, [.ref yf, .ref yg])), (yf, .inl (k.1, 19, .inl tf)), (yg, .inl (k.1, 19, .inl mf)), (zs, .inr (2, [.ref zr, .int a])), (zw, .inr (4, [.ref zs, .ref zc, .int lo_6, .int sz_7, .int rm_8])), (zv, .inr (6, [.ref zs, .int rw_9])), (zt, .inr (3, [.ref zr, .int pl, .int ln, .int cm])), (zd, .inr (5, [.ref zt, .ref yc, .int la, .int va, .int sy, .int ry])), (ze, .inr (7, [.ref zt, .int lb, .int le])), (qo, .inl (k.2.1, 1, .inr (.inl fo_14))), (Mh, .inr (9, [.ref pP, .ref pO, .int th_26, .int sz_35, .ref pB, .ref pS, .ref pK, .int op, .int Mrw, .int bg, .int lo_27, .int cd_28, .int wd_29, .int rm_30, .int rg, .int rr, .int Mpl, .int lm, .int nx, .long av, .int sp, .int Mle, .int Mla])), (pP, .inl (k.1, 47, .inl tfP)), (pO, .inl (k.1, 47, .inl tfO)), (pB, .inl (k.1, 65536, .inl B_34)), (pS, .inl (k.1, 38, .inl S_31)), (pK, .inl (k.1, 38, .inl K_32))] := hD
    refine lv_istore (lv' := [(6, .int r36), (5, .int r18), (0, .ref b), (1, .ref h0), (2, .ref Mh), (3, .ref qo), (4, .int i)]) hx hb d_Law_law_526 hl (by decide) rfl (fun ls hl => ?_)
    have hst := st_write hC hW hJ hu hz hlen hw19 hw37
    refine lv_aload_n hx hb d_Law_law_528 rfl (lv_at hl 4 rfl) ?_
    refine kqi (va_runV (As := []) (rest := []) ⟨hx, hb, hml, hown, hts⟩ (c_M_thrown l hl9 D k Mh pP pO pB pS pK th_26 sz_35 op Mrw bg lo_27 cd_28 wd_29 rm_30 rg rr Mpl lm nx av sp Mle Mla ) (cwV 0 hts (gV mw_485 mw_486 mw_487 mw_331 mw_488) rfl rfl rfl (by decide +kernel) ⟨(Nat.le_of_ble_eq_true rfl), (Nat.le_of_ble_eq_true rfl)⟩) (kRecv (q := (R_Mdl, T_Mdl, 23)) (q0 := 16) (ci := 9) hK hP rfl rfl (kPreR (wc := [(Mh, .inr (9, [.ref pP, .ref pO, .int th_26, .int sz_35, .ref pB, .ref pS, .ref pK, .int op, .int Mrw, .int bg, .int lo_27, .int cd_28, .int wd_29, .int rm_30, .int rg, .int rr, .int Mpl, .int lm, .int nx, .long av, .int sp, .int Mle, .int Mla]))]) hE hK hP hS [16] rfl)) rfl rfl hl.1 rfl (lv_room (Nat.le_of_ble_eq_true rfl)) d_Law_law_529 ⟨(by show _ ≤ 601024; omega), (by show _ ≤ 7293034; omega)⟩) hP hS (fun r39 H locs hw hP hS => ?_)
    replace hw := hw.symm
    subst hw
    refine lv_iload hx hb d_Law_law_532 (lv_at hl 1 rfl) ?_
    refine lv_icmp_eq (tgt := 539) hx hb d_Law_law_534 (by decide) (fun c40 => ?_) (fun c40 => ?_)
    · refine lv_iload hx hb d_Law_law_539 (lv_at hl 1 rfl) ?_
      refine lv_if_ne (tgt := 556) hx hb d_Law_law_541 (by decide) (fun c41 => ?_) (fun c41 => ?_)
      · refine lv_goto (tgt := 827) hx hb d_Law_law_556 (by decide) ?_
        have hq3 := (hw19.2.1 hcz).2.2.2.2.2.2.1
        exact ih q_15 n_12 f_16 u_17 L_13 sf_10 lf_11 tf mf so sr dr dw a lo_6 sz_7 rm_8 rw_9 pl ln cm la va sy ry lb le th_26 sz_35 op Mrw bg lo_27 cd_28 wd_29 rm_30 rg rr Mpl lm nx av sp Mle Mla B_34 S_31 K_32 fo_14 hst.2.2.2.1 hst.2.2.2.2.1 hst.2.2.2.2.2 hz20 (hst.2.2.1 ▸ hz38) H _ _ _ ⟨by omega, by omega⟩ (ka_P hP (is := [0, 1, 2, 3, 4, 5, 6, 7, 8, 9, 10, 11, 12, 13, 14, 16, 17, 18, 19, 20, 21, 15]) rfl) (hD.sub [0, 1, 2, 3, 4, 5, 6, 7, 8, 9, 10, 11, 12, 13, 14, 16, 17, 18, 19, 20, 21, 15] (by decide) rfl) hS ls (lv_sub hl [2, 3, 4, 5, 6] rfl)
      · refine lv_aload_n hx hb d_Law_law_544 rfl (lv_at hl 5 rfl) ?_
        refine lv_iconst (v := 0) hx hb d_Law_law_545 (by decide) ?_
        refine va_lald hx hb hK hP 15 1 rfl rfl (by unfold vp_in; decide +kernel) d_Law_law_546 ?_
        refine lv_iload hx hb d_Law_law_547 (lv_at hl 0 rfl) ?_
        refine lv_i2l (v := r36.toInt64) hx hb d_Law_law_549 rfl ?_
        refine W.lcmp hx hb d_Law_law_550 ?_
        refine lv_if_eq (tgt := 556) hx hb d_Law_law_551 (by decide) (fun c42 => ?_) (fun c42 => ?_)
        · refine lv_goto (tgt := 827) hx hb d_Law_law_556 (by decide) ?_
          have hq3 := (hw19.2.1 hcz).2.2.2.2.2.2.1
          exact ih q_15 n_12 f_16 u_17 L_13 sf_10 lf_11 tf mf so sr dr dw a lo_6 sz_7 rm_8 rw_9 pl ln cm la va sy ry lb le th_26 sz_35 op Mrw bg lo_27 cd_28 wd_29 rm_30 rg rr Mpl lm nx av sp Mle Mla B_34 S_31 K_32 fo_14 hst.2.2.2.1 hst.2.2.2.2.1 hst.2.2.2.2.2 hz20 (hst.2.2.1 ▸ hz38) H _ _ _ ⟨by omega, by omega⟩ (ka_P hP (is := [0, 1, 2, 3, 4, 5, 6, 7, 8, 9, 10, 11, 12, 13, 14, 16, 17, 18, 19, 20, 21, 15]) rfl) (hD.sub [0, 1, 2, 3, 4, 5, 6, 7, 8, 9, 10, 11, 12, 13, 14, 16, 17, 18, 19, 20, 21, 15] (by decide) rfl) hS ls (lv_sub hl [2, 3, 4, 5, 6] rfl)
        · exact absurd ((lg_cmp_eq _ _).mpr (hst.2.1 c41)) c42
    · exact absurd hst.1 c40
  · refine kci (wc := [(h0, .inr (8, [.ref zr, .ref zc, .ref yc, .ref zs, .ref zw, .ref zv, .ref zt, .ref zd, .ref ze, .int so, .int sr, .int dr, .int dw])), (zr, .inr (0, [.ref za, .int u])), (za, .inl (k.1, n, .inl f)), (zc, .inr (1, [.ref zf, .ref zg])), (zf, .inl (k.1, 19, .inl sf)), (zg, .inl (k.1, 19, .inl lf)), (yc, .inr (1, [.ref yf, .ref yg])), (yf, .inl (k.1, 19, .inl tf)), (yg, .inl (k.1, 19, .inl mf)), (zs, .inr (2, [.ref zr, .int a])), (zw, .inr (4, [.ref zs, .ref zc, .int lo, .int sz, .int rm])), (zv, .inr (6, [.ref zs, .int rw])), (zt, .inr (3, [.ref zr, .int pl, .int ln, .int cm])), (zd, .inr (5, [.ref zt, .ref yc, .int la, .int va, .int sy, .int ry])), (ze, .inr (7, [.ref zt, .int lb, .int le])), (qo, .inl (k.2.1, 1, .inr (.inl fo)))]) (wr := [(Mh, .inr (9, [.ref pP, .ref pO, .int Mth, .int Msz, .ref pB, .ref pS, .ref pK, .int op, .int Mrw, .int bg, .int Mlo, .int cd, .int wd, .int Mrm, .int rg, .int rr, .int Mpl, .int lm, .int nx, .long av, .int sp, .int Mle, .int Mla])), (pP, .inl (k.1, 47, .inl tfP)), (pO, .inl (k.1, 47, .inl tfO)), (pB, .inl (k.1, 65536, .inl MB)), (pS, .inl (k.1, 38, .inl S)), (pK, .inl (k.1, 38, .inl K))]) (vx_runSW (As := [.ref h0, .int v1, .long w4, .int v5, .ref qo]) (rest := []) ⟨hx, hb, hml, hown, hts⟩ (c_Law_write_f l hl9 D k h0 zr za zc zf zg yc yf yg zs zw zv zt zd ze qo H.size so sr dr dw n f u L sf lf tf mf a lo sz rm rw pl ln cm la va sy ry lb le fo v1 w4 v5 (by assumption) (by assumption)) (vx_cwSW 5 hts (gSW mw_518 mw_519 mw_479 mw_520) rfl rfl rfl (by decide +kernel) ⟨(Nat.le_of_ble_eq_true rfl), (Nat.le_of_ble_eq_true rfl)⟩) (kPre (wc := [(h0, .inr (8, [.ref zr, .ref zc, .ref yc, .ref zs, .ref zw, .ref zv, .ref zt, .ref zd, .ref ze, .int so, .int sr, .int dr, .int dw])), (zr, .inr (0, [.ref za, .int u])), (za, .inl (k.1, n, .inl f)), (zc, .inr (1, [.ref zf, .ref zg])), (zf, .inl (k.1, 19, .inl sf)), (zg, .inl (k.1, 19, .inl lf)), (yc, .inr (1, [.ref yf, .ref yg])), (yf, .inl (k.1, 19, .inl tf)), (yg, .inl (k.1, 19, .inl mf)), (zs, .inr (2, [.ref zr, .int a])), (zw, .inr (4, [.ref zs, .ref zc, .int lo, .int sz, .int rm])), (zv, .inr (6, [.ref zs, .int rw])), (zt, .inr (3, [.ref zr, .int pl, .int ln, .int cm])), (zd, .inr (5, [.ref zt, .ref yc, .int la, .int va, .int sy, .int ry])), (ze, .inr (7, [.ref zt, .int lb, .int le])), (qo, .inl (k.2.1, 1, .inr (.inl fo)))]) hE hK hP hD hS hA [0, 1, 2, 3, 4, 5, 6, 7, 8, 9, 10, 11, 12, 13, 14, 21] rfl (by decide)) rfl rfl hl.1 rfl (lv_room (Nat.le_of_ble_eq_true rfl)) d_Law_law_483 ⟨(by show _ ≤ 601024; omega), (by show _ ≤ 7293034; omega)⟩) hP hD hS hA [0, 1, 2, 3, 4, 5, 6, 7, 8, 9, 10, 11, 12, 13, 14, 21] [15, 16, 17, 18, 19, 20] rfl rfl (by decide) (by decide) (fun r44 zz uu H locs hw45 hz46 hP hD hS => ?_)
    obtain ⟨fo_43, rfl⟩ : ∃ y, y = uu := ⟨_, rfl⟩
    have hw45 : r44 = wre so sr v1 v5 u ∧ (wre so sr v1 v5 u = 0 → fo_43 0 = (v5).toInt64) ∧ (¬ wre so sr v1 v5 u = 0 → fo_43 = fo) := hw45
    have hP : va_P D vwCl [(Mh, .inr (9, [.ref pP, .ref pO, .int Mth, .int Msz, .ref pB, .ref pS, .ref pK, .int op, .int Mrw, .int bg, .int Mlo, .int cd, .int wd, .int Mrm, .int rg, .int rr, .int Mpl, .int lm, .int nx, .long av, .int sp, .int Mle, .int Mla])), (pP, .inl (k.1, 47, .inl tfP)), (pO, .inl (k.1, 47, .inl tfO)), (pB, .inl (k.1, 65536, .inl MB)), (pS, .inl (k.1, 38, .inl S)), (pK, .inl (k.1, 38, .inl K)), (h0, .inr (8, [.ref zr, .ref zc, .ref yc, .ref zs, .ref zw, .ref zv, .ref zt, .ref zd, .ref ze, .int so, .int sr, .int dr, .int dw])), (zr, .inr (0, [.ref za, .int u])), (za, .inl (k.1, n, .inl f)), (zc, .inr (1, [.ref zf, .ref zg])), (zf, .inl (k.1, 19, .inl sf)), (zg, .inl (k.1, 19, .inl lf)), (yc, .inr (1, [.ref yf, .ref yg])), (yf, .inl (k.1, 19, .inl tf)), (yg, .inl (k.1, 19, .inl mf)), (zs, .inr (2, [.ref zr, .int a])), (zw, .inr (4, [.ref zs, .ref zc, .int lo, .int sz, .int rm])), (zv, .inr (6, [.ref zs, .int rw])), (zt, .inr (3, [.ref zr, .int pl, .int ln, .int cm])), (zd, .inr (5, [.ref zt, .ref yc, .int la, .int va, .int sy, .int ry])), (ze, .inr (7, [.ref zt, .int lb, .int le])), (qo, .inl (k.2.1, 1, .inr (.inl fo_43)))] H := hP
    have hD : va_D A [(Mh, .inr (9, [.ref pP, .ref pO, .int Mth, .int Msz, .ref pB, .ref pS, .ref pK, .int op, .int Mrw, .int bg, .int Mlo, .int cd, .int wd, .int Mrm, .int rg, .int rr, .int Mpl, .int lm, .int nx, .long av, .int sp, .int Mle, .int Mla])), (pP, .inl (k.1, 47, .inl tfP)), (pO, .inl (k.1, 47, .inl tfO)), (pB, .inl (k.1, 65536, .inl MB)), (pS, .inl (k.1, 38, .inl S)), (pK, .inl (k.1, 38, .inl K)), (h0, .inr (8, [.ref zr, .ref zc, .ref yc, .ref zs, .ref zw, .ref zv, .ref zt, .ref zd, .ref ze, .int so, .int sr, .int dr, .int dw])), (zr, .inr (0, [.ref za, .int u])), (za, .inl (k.1, n, .inl f)), (zc, .inr (1, [.ref zf, .ref zg])), (zf, .inl (k.1, 19, .inl sf)), (zg, .inl (k.1, 19, .inl lf)), (yc, .inr (1, [.ref yf, .ref yg])), (yf, .inl (k.1, 19, .inl tf)), (yg, .inl (k.1, 19, .inl mf)), (zs, .inr (2, [.ref zr, .int a])), (zw, .inr (4, [.ref zs, .ref zc, .int lo, .int sz, .int rm])), (zv, .inr (6, [.ref zs, .int rw])), (zt, .inr (3, [.ref zr, .int pl, .int ln, .int cm])), (zd, .inr (5, [.ref zt, .ref yc, .int la, .int va, .int sy, .int ry])), (ze, .inr (7, [.ref zt, .int lb, .int le])), (qo, .inl (k.2.1, 1, .inr (.inl fo_43)))] := hD
    refine lv_istore (lv' := [(5, .int r44), (0, .ref b), (1, .ref h0), (2, .ref Mh), (3, .ref qo), (4, .int i)]) hx hb d_Law_law_486 hl (by decide) rfl (fun ls hl => ?_)
    refine lv_aload_n hx hb d_Law_law_488 rfl (lv_at hl 3 rfl) ?_
    refine lv_aload_n hx hb d_Law_law_489 rfl (lv_at hl 1 rfl) ?_
    refine lv_iload hx hb d_Law_law_490 (lv_at hl 5 rfl) ?_
    refine lv_iconst (v := 1) hx hb d_Law_law_492 (by decide) ?_
    refine lv_iadd hx hb d_Law_law_493 ?_
    refine va_sld hx hb hX hbl hbA hS hv1 d_Law_law_494 ?_
    refine lv_topi (fun v47 ev47 => ?_)
    obtain rfl : v1 = v47 := ev1.trans ev47.symm
    refine lv_aload_n hx hb d_Law_law_495 rfl (lv_at hl 1 rfl) ?_
    refine lv_iload hx hb d_Law_law_496 (lv_at hl 5 rfl) ?_
    refine lv_iconst (v := 2) hx hb d_Law_law_498 (by decide) ?_
    refine lv_iadd hx hb d_Law_law_499 ?_
    refine va_sld hx hb hX hbl hbA hS hv2 d_Law_law_500 ?_
    refine lv_topi (fun v48 ev48 => ?_)
    obtain rfl : v2 = v48 := ev2.trans ev48.symm
    refine lv_i2l (v := v2.toInt64) hx hb d_Law_law_501 rfl ?_
    refine lv_bipush (v := 32) hx hb d_Law_law_502 (by decide) ?_
    refine lv_lshl (v := v2.toInt64 <<< ((32 : Int32).toInt64 &&& 63)) hx hb d_Law_law_504 rfl ?_
    refine lv_aload_n hx hb d_Law_law_505 rfl (lv_at hl 1 rfl) ?_
    refine lv_iload hx hb d_Law_law_506 (lv_at hl 5 rfl) ?_
    refine lv_iconst (v := 3) hx hb d_Law_law_508 (by decide) ?_
    refine lv_iadd hx hb d_Law_law_509 ?_
    refine va_sld hx hb hX hbl hbA hS hv3 d_Law_law_510 ?_
    refine lv_topi (fun v49 ev49 => ?_)
    obtain rfl : v3 = v49 := ev3.trans ev49.symm
    refine lv_i2l (v := v3.toInt64) hx hb d_Law_law_511 rfl ?_
    refine lv_ldc2 (v := 4294967295) hx hb hown (hts (.constantLong R_Law 87 4294967295) mw_517) d_Law_law_512 ?_
    refine lv_land hx hb d_Law_law_515 ?_
    refine lv_lor hx hb d_Law_law_516 ?_
    refine lv_topl (fun w50 ew50 => ?_)
    obtain rfl : w4 = w50 := ew4.trans ew50.symm
    refine lv_aload_n hx hb d_Law_law_517 rfl (lv_at hl 1 rfl) ?_
    refine lv_iload hx hb d_Law_law_518 (lv_at hl 5 rfl) ?_
    refine lv_iconst (v := 4) hx hb d_Law_law_520 (by decide) ?_
    refine lv_iadd hx hb d_Law_law_521 ?_
    refine va_sld hx hb hX hbl hbA hS hv4 d_Law_law_522 ?_
    refine lv_topi (fun v51 ev51 => ?_)
    obtain rfl : v5 = v51 := ev5.trans ev51.symm
    refine kci (wc := [(Mh, .inr (9, [.ref pP, .ref pO, .int Mth, .int Msz, .ref pB, .ref pS, .ref pK, .int op, .int Mrw, .int bg, .int Mlo, .int cd, .int wd, .int Mrm, .int rg, .int rr, .int Mpl, .int lm, .int nx, .long av, .int sp, .int Mle, .int Mla])), (pP, .inl (k.1, 47, .inl tfP)), (pO, .inl (k.1, 47, .inl tfO)), (pB, .inl (k.1, 65536, .inl MB)), (pS, .inl (k.1, 38, .inl S)), (pK, .inl (k.1, 38, .inl K))]) (wr := [(h0, .inr (8, [.ref zr, .ref zc, .ref yc, .ref zs, .ref zw, .ref zv, .ref zt, .ref zd, .ref ze, .int so, .int sr, .int dr, .int dw])), (zr, .inr (0, [.ref za, .int u])), (za, .inl (k.1, n, .inl f)), (zc, .inr (1, [.ref zf, .ref zg])), (zf, .inl (k.1, 19, .inl sf)), (zg, .inl (k.1, 19, .inl lf)), (yc, .inr (1, [.ref yf, .ref yg])), (yf, .inl (k.1, 19, .inl tf)), (yg, .inl (k.1, 19, .inl mf)), (zs, .inr (2, [.ref zr, .int a])), (zw, .inr (4, [.ref zs, .ref zc, .int lo, .int sz, .int rm])), (zv, .inr (6, [.ref zs, .int rw])), (zt, .inr (3, [.ref zr, .int pl, .int ln, .int cm])), (zd, .inr (5, [.ref zt, .ref yc, .int la, .int va, .int sy, .int ry])), (ze, .inr (7, [.ref zt, .int lb, .int le])), (qo, .inl (k.2.1, 1, .inr (.inl fo_43)))]) (va_runV (As := [.int v1, .long w4, .int v5]) (rest := []) ⟨hx, hb, hml, hown, hts⟩ (c_M_write l hl9 D k Mh pP pO pB pS pK H.size Mth Msz op Mrw bg Mlo cd wd Mrm rg rr Mpl lm nx av sp Mle Mla MB S K L v1 w4 v5 (by assumption) (by assumption) (by assumption)) (cwV 3 hts (gV mw_521 mw_522 mw_523 mw_331 mw_524) rfl rfl rfl (by decide +kernel) ⟨(Nat.le_of_ble_eq_true rfl), (Nat.le_of_ble_eq_true rfl)⟩) (kRecv (q := (R_Mdl, T_Mdl, 23)) (q0 := 0) (ci := 9) hK hP rfl rfl (kPre (wc := [(Mh, .inr (9, [.ref pP, .ref pO, .int Mth, .int Msz, .ref pB, .ref pS, .ref pK, .int op, .int Mrw, .int bg, .int Mlo, .int cd, .int wd, .int Mrm, .int rg, .int rr, .int Mpl, .int lm, .int nx, .long av, .int sp, .int Mle, .int Mla])), (pP, .inl (k.1, 47, .inl tfP)), (pO, .inl (k.1, 47, .inl tfO)), (pB, .inl (k.1, 65536, .inl MB)), (pS, .inl (k.1, 38, .inl S)), (pK, .inl (k.1, 38, .inl K))]) hE hK hP hD hS hA [0, 1, 2, 3, 4, 5] rfl (by decide))) rfl rfl hl.1 rfl (lv_room (Nat.le_of_ble_eq_true rfl)) d_Law_law_523 ⟨(by show _ ≤ 601024; omega), (by show _ ≤ 7293034; omega)⟩) hP hD hS hA [0, 1, 2, 3, 4, 5] [6, 7, 8, 9, 10, 11, 12, 13, 14, 15, 16, 17, 18, 19, 20, 21] rfl rfl (by decide) (by decide) (fun r62 zz uu H locs hw63 hz64 hP hD hS => ?_)
    obtain ⟨B_60, sz_61⟩ := zz
    obtain ⟨th_52, lo_53, cd_54, wd_55, rm_56, S_57, K_58, L_59⟩ := uu
    have hw63 : r62 = (if mwx op Mrw v1 v5 Msz ≤ 0 then nI L_59.length - bg else 0) ∧ th_52 = mwx op Mrw v1 v5 Msz ∧ lo_53 = (mwt op Mrw v1 v5 Msz bg w4 Mlo cd wd Mrm S K L).1 ∧ cd_54 = (mwt op Mrw v1 v5 Msz bg w4 Mlo cd wd Mrm S K L).2.1 ∧ wd_55 = (mwt op Mrw v1 v5 Msz bg w4 Mlo cd wd Mrm S K L).2.2.1 ∧ rm_56 = (mwt op Mrw v1 v5 Msz bg w4 Mlo cd wd Mrm S K L).2.2.2.1 ∧ S_57 = (mwt op Mrw v1 v5 Msz bg w4 Mlo cd wd Mrm S K L).2.2.2.2.1 ∧ K_58 = (mwt op Mrw v1 v5 Msz bg w4 Mlo cd wd Mrm S K L).2.2.2.2.2.1 ∧ L_59 = (mwt op Mrw v1 v5 Msz bg w4 Mlo cd wd Mrm S K L).2.2.2.2.2.2 := hw63
    have hz64 : row_ok 65536 B_60 sz_61 L_59 := hz64
    have hP : va_P D vwCl [(h0, .inr (8, [.ref zr, .ref zc, .ref yc, .ref zs, .ref zw, .ref zv, .ref zt, .ref zd, .ref ze, .int so, .int sr, .int dr, .int dw])), (zr, .inr (0, [.ref za, .int u])), (za, .inl (k.1, n, .inl f)), (zc, .inr (1, [.ref zf, .ref zg])), (zf, .inl (k.1, 19, .inl sf)), (zg, .inl (k.1, 19, .inl lf)), (yc, .inr (1, [.ref yf, .ref yg])), (yf, .inl (k.1, 19, .inl tf)), (yg, .inl (k.1, 19, .inl mf)), (zs, .inr (2, [.ref zr, .int a])), (zw, .inr (4, [.ref zs, .ref zc, .int lo, .int sz, .int rm])), (zv, .inr (6, [.ref zs, .int rw])), (zt, .inr (3, [.ref zr, .int pl, .int ln, .int cm])), (zd, .inr (5, [.ref zt, .ref yc, .int la, .int va, .int sy, .int ry])), (ze, .inr (7, [.ref zt, .int lb, .int le])), (qo, .inl (k.2.1, 1, .inr (.inl fo_43))), (Mh, .inr (9, [.ref pP, .ref pO, .int th_52, .int sz_61, .ref pB, .ref pS, .ref pK, .int op, .int Mrw, .int bg, .int lo_53, .int cd_54, .int wd_55, .int rm_56, .int rg, .int rr, .int Mpl, .int lm, .int nx, .long av, .int sp, .int Mle, .int Mla])), (pP, .inl (k.1, 47, .inl tfP)), (pO, .inl (k.1, 47, .inl tfO)), (pB, .inl (k.1, 65536, .inl B_60)), (pS, .inl (k.1, 38, .inl S_57)), (pK, .inl (k.1, 38, .inl K_58))] H := hP
    have hD : va_D A [(h0, .inr (8, [.ref zr, .ref zc, .ref yc, .ref zs, .ref zw, .ref zv, .ref zt, .ref zd, .ref ze, .int so, .int sr, .int dr, .int dw])), (zr, .inr (0, [.ref za, .int u])), (za, .inl (k.1, n, .inl f)), (zc, .inr (1, [.ref zf, .ref zg])), (zf, .inl (k.1, 19, .inl sf)), (zg, .inl (k.1, 19, .inl lf)), (yc, .inr (1, [.ref yf, .ref yg])), (yf, .inl (k.1, 19, .inl tf)), (yg, .inl (k.1, 19, .inl mf)), (zs, .inr (2, [.ref zr, .int a])), (zw, .inr (4, [.ref zs, .ref zc, .int lo, .int sz, .int rm])), (zv, .inr (6, [.ref zs, .int rw])), (zt, .inr (3, [.ref zr, .int pl, .int ln, .int cm])), (zd, .inr (5, [.ref zt, .ref yc, .int la, .int va, .int sy, .int ry])), (ze, .inr (7, [.ref zt, .int lb, .int le])), (qo, .inl (k.2.1, 1, .inr (.inl fo_43))), (Mh, .inr (9, [.ref pP, .ref pO, .int th_52, .int sz_61, .ref pB, .ref pS, .ref pK, .int op, .int Mrw, .int bg, .int lo_53, .int cd_54, .int wd_55, .int rm_56, .int rg, .int rr, .int Mpl, .int lm, .int nx, .long av, .int sp, .int Mle, .int Mla])), (pP, .inl (k.1, 47, .inl tfP)), (pO, .inl (k.1, 47, .inl tfO)), (pB, .inl (k.1, 65536, .inl B_60)), (pS, .inl (k.1, 38, .inl S_57)), (pK, .inl (k.1, 38, .inl K_58))] := hD
    refine lv_istore (lv' := [(6, .int r62), (5, .int r44), (0, .ref b), (1, .ref h0), (2, .ref Mh), (3, .ref qo), (4, .int i)]) hx hb d_Law_law_526 hl (by decide) rfl (fun ls hl => ?_)
    have hst := st_write (lo2 := lo) (sz2 := sz) (rm2 := rm) (rw2 := rw) (sf2 := sf) (lf2 := lf) (n2 := n) (L2 := L) hC hW hJ hu hz hlen ⟨hw45.1, fun q => absurd q hcz, fun q => ⟨rfl, rfl, rfl, rfl, rfl, rfl, rfl, rfl, hw45.2.2 q⟩⟩ hw63
    refine lv_aload_n hx hb d_Law_law_528 rfl (lv_at hl 4 rfl) ?_
    refine kqi (va_runV (As := []) (rest := []) ⟨hx, hb, hml, hown, hts⟩ (c_M_thrown l hl9 D k Mh pP pO pB pS pK th_52 sz_61 op Mrw bg lo_53 cd_54 wd_55 rm_56 rg rr Mpl lm nx av sp Mle Mla ) (cwV 0 hts (gV mw_485 mw_486 mw_487 mw_331 mw_488) rfl rfl rfl (by decide +kernel) ⟨(Nat.le_of_ble_eq_true rfl), (Nat.le_of_ble_eq_true rfl)⟩) (kRecv (q := (R_Mdl, T_Mdl, 23)) (q0 := 16) (ci := 9) hK hP rfl rfl (kPreR (wc := [(Mh, .inr (9, [.ref pP, .ref pO, .int th_52, .int sz_61, .ref pB, .ref pS, .ref pK, .int op, .int Mrw, .int bg, .int lo_53, .int cd_54, .int wd_55, .int rm_56, .int rg, .int rr, .int Mpl, .int lm, .int nx, .long av, .int sp, .int Mle, .int Mla]))]) hE hK hP hS [16] rfl)) rfl rfl hl.1 rfl (lv_room (Nat.le_of_ble_eq_true rfl)) d_Law_law_529 ⟨(by show _ ≤ 601024; omega), (by show _ ≤ 7293034; omega)⟩) hP hS (fun r65 H locs hw hP hS => ?_)
    replace hw := hw.symm
    subst hw
    refine lv_iload hx hb d_Law_law_532 (lv_at hl 1 rfl) ?_
    refine lv_icmp_eq (tgt := 539) hx hb d_Law_law_534 (by decide) (fun c66 => ?_) (fun c66 => ?_)
    · refine lv_iload hx hb d_Law_law_539 (lv_at hl 1 rfl) ?_
      refine lv_if_ne (tgt := 556) hx hb d_Law_law_541 (by decide) (fun c67 => ?_) (fun c67 => ?_)
      · refine lv_goto (tgt := 827) hx hb d_Law_law_556 (by decide) ?_
        exact ih za n f u L sf lf tf mf so sr dr dw a lo sz rm rw pl ln cm la va sy ry lb le th_52 sz_61 op Mrw bg lo_53 cd_54 wd_55 rm_56 rg rr Mpl lm nx av sp Mle Mla B_60 S_57 K_58 fo_43 hst.2.2.2.1 hst.2.2.2.2.1 hst.2.2.2.2.2 hR (hst.2.2.1 ▸ hz64) H _ _ _ ⟨by omega, by omega⟩ (ka_P hP (is := [0, 1, 2, 3, 4, 5, 6, 7, 8, 9, 10, 11, 12, 13, 14, 16, 17, 18, 19, 20, 21, 15]) rfl) (hD.sub [0, 1, 2, 3, 4, 5, 6, 7, 8, 9, 10, 11, 12, 13, 14, 16, 17, 18, 19, 20, 21, 15] (by decide) rfl) hS ls (lv_sub hl [2, 3, 4, 5, 6] rfl)
      · refine lv_aload_n hx hb d_Law_law_544 rfl (lv_at hl 5 rfl) ?_
        refine lv_iconst (v := 0) hx hb d_Law_law_545 (by decide) ?_
        refine va_lald hx hb hK hP 15 1 rfl rfl (by unfold vp_in; decide +kernel) d_Law_law_546 ?_
        refine lv_iload hx hb d_Law_law_547 (lv_at hl 0 rfl) ?_
        refine lv_i2l (v := r62.toInt64) hx hb d_Law_law_549 rfl ?_
        refine W.lcmp hx hb d_Law_law_550 ?_
        refine lv_if_eq (tgt := 556) hx hb d_Law_law_551 (by decide) (fun c68 => ?_) (fun c68 => ?_)
        · refine lv_goto (tgt := 827) hx hb d_Law_law_556 (by decide) ?_
          exact ih za n f u L sf lf tf mf so sr dr dw a lo sz rm rw pl ln cm la va sy ry lb le th_52 sz_61 op Mrw bg lo_53 cd_54 wd_55 rm_56 rg rr Mpl lm nx av sp Mle Mla B_60 S_57 K_58 fo_43 hst.2.2.2.1 hst.2.2.2.2.1 hst.2.2.2.2.2 hR (hst.2.2.1 ▸ hz64) H _ _ _ ⟨by omega, by omega⟩ (ka_P hP (is := [0, 1, 2, 3, 4, 5, 6, 7, 8, 9, 10, 11, 12, 13, 14, 16, 17, 18, 19, 20, 21, 15]) rfl) (hD.sub [0, 1, 2, 3, 4, 5, 6, 7, 8, 9, 10, 11, 12, 13, 14, 16, 17, 18, 19, 20, 21, 15] (by decide) rfl) hS ls (lv_sub hl [2, 3, 4, 5, 6] rfl)
        · exact absurd ((lg_cmp_eq _ _).mpr (hst.2.1 c67)) c68
    · exact absurd hst.1 c66

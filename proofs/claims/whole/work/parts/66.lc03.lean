set_option maxHeartbeats 1000000 in
set_option maxRecDepth 100000 in
theorem lc_223 (l : Launch) (hl9 : l.stackTraces = false) (D : va_G) (k : gK) {p : Program} {e : Env} {s : State} {m : MethodId} {below : List Frame} {meth : Method} {c : Code} {A : Nat → Prop} {b Ls : Nat} {xs : Nat → Int32} (Cc : Cx p s m #[Value.ref b] meth c b_Law_law 8 ret R_Law meth.name D k A) (hA : ∀ q : Nat, s.heap.size ≤ q → A q) (hX : va_X b Ls xs s s.heap) (hbl : b < s.heap.size) (hbA : ¬ A b) (hLs : Ls ≤ 2560) (h0 zr zc zf zg yc yf yg zs zw zv zt zd ze Mh pP pO pB pS pK qo : Nat) (cn : Nat) (i : Int32) (hi : i = nI (5 * cn)) (h5 : 5 * cn + 5 ≤ Ls) (ih : LCont l D k p e s m below meth c A b h0 zr zc zf zg yc yf yg zs zw zv zt zd ze Mh pP pO pB pS pK qo (cn + 1) i 827) : LCont l D k p e s m below meth c A b h0 zr zc zf zg yc yf yg zs zw zv zt zd ze Mh pP pO pB pS pK qo cn i 223 := by
  obtain ⟨hx, hb, hml, hr, hlk, hown, hts, hK, hE, hin⟩ := Cc
  intro za n f u L sf lf tf mf so sr dr dw a lo sz rm rw pl ln cm la va sy ry lb le Mth Msz op Mrw bg Mlo cd wd Mrm rg rr Mpl lm nx av sp Mle Mla MB S K fo hC hW hJ hR hM H locs cells slots hrm hP hD hS ls hl
  have hv1 : vp_in (i + 1) Ls := lw_ix (j := 1) hi h5 hLs (by decide)
  have hv2 : vp_in (i + 2) Ls := lw_ix (j := 2) hi h5 hLs (by decide)
  have hv3 : vp_in (i + 3) Ls := lw_ix (j := 3) hi h5 hLs (by decide)
  have hv4 : vp_in (i + 4) Ls := lw_ix (j := 4) hi h5 hLs (by decide)
  have hn := row_le hR
  have hu := hR.1
  have hz := hM.1
  have hlen := row_len hM
  have hcn : cn < 512 := by omega
  have hl : lv_has ls 8 [(0, .ref b), (1, .ref h0), (2, .ref Mh), (3, .ref qo), (4, .int i)] := hl
  have hP : va_P D vwCl [(h0, .inr (8, [.ref zr, .ref zc, .ref yc, .ref zs, .ref zw, .ref zv, .ref zt, .ref zd, .ref ze, .int so, .int sr, .int dr, .int dw])), (zr, .inr (0, [.ref za, .int u])), (za, .inl (k.1, n, .inl f)), (zc, .inr (1, [.ref zf, .ref zg])), (zf, .inl (k.1, 19, .inl sf)), (zg, .inl (k.1, 19, .inl lf)), (yc, .inr (1, [.ref yf, .ref yg])), (yf, .inl (k.1, 19, .inl tf)), (yg, .inl (k.1, 19, .inl mf)), (zs, .inr (2, [.ref zr, .int a])), (zw, .inr (4, [.ref zs, .ref zc, .int lo, .int sz, .int rm])), (zv, .inr (6, [.ref zs, .int rw])), (zt, .inr (3, [.ref zr, .int pl, .int ln, .int cm])), (zd, .inr (5, [.ref zt, .ref yc, .int la, .int va, .int sy, .int ry])), (ze, .inr (7, [.ref zt, .int lb, .int le])), (Mh, .inr (9, [.ref pP, .ref pO, .int Mth, .int Msz, .ref pB, .ref pS, .ref pK, .int op, .int Mrw, .int bg, .int Mlo, .int cd, .int wd, .int Mrm, .int rg, .int rr, .int Mpl, .int lm, .int nx, .long av, .int sp, .int Mle, .int Mla])), (pP, .inl (k.1, 47, .inl tfP)), (pO, .inl (k.1, 47, .inl tfO)), (pB, .inl (k.1, 65536, .inl MB)), (pS, .inl (k.1, 38, .inl S)), (pK, .inl (k.1, 38, .inl K)), (qo, .inl (k.2.1, 1, .inr (.inl fo)))] H := hP
  have hD : va_D A [(h0, .inr (8, [.ref zr, .ref zc, .ref yc, .ref zs, .ref zw, .ref zv, .ref zt, .ref zd, .ref ze, .int so, .int sr, .int dr, .int dw])), (zr, .inr (0, [.ref za, .int u])), (za, .inl (k.1, n, .inl f)), (zc, .inr (1, [.ref zf, .ref zg])), (zf, .inl (k.1, 19, .inl sf)), (zg, .inl (k.1, 19, .inl lf)), (yc, .inr (1, [.ref yf, .ref yg])), (yf, .inl (k.1, 19, .inl tf)), (yg, .inl (k.1, 19, .inl mf)), (zs, .inr (2, [.ref zr, .int a])), (zw, .inr (4, [.ref zs, .ref zc, .int lo, .int sz, .int rm])), (zv, .inr (6, [.ref zs, .int rw])), (zt, .inr (3, [.ref zr, .int pl, .int ln, .int cm])), (zd, .inr (5, [.ref zt, .ref yc, .int la, .int va, .int sy, .int ry])), (ze, .inr (7, [.ref zt, .int lb, .int le])), (Mh, .inr (9, [.ref pP, .ref pO, .int Mth, .int Msz, .ref pB, .ref pS, .ref pK, .int op, .int Mrw, .int bg, .int Mlo, .int cd, .int wd, .int Mrm, .int rg, .int rr, .int Mpl, .int lm, .int nx, .long av, .int sp, .int Mle, .int Mla])), (pP, .inl (k.1, 47, .inl tfP)), (pO, .inl (k.1, 47, .inl tfO)), (pB, .inl (k.1, 65536, .inl MB)), (pS, .inl (k.1, 38, .inl S)), (pK, .inl (k.1, 38, .inl K)), (qo, .inl (k.2.1, 1, .inr (.inl fo)))] := hD
  refine lv_aload_n hx hb d_Law_law_223 rfl (lv_at hl 1 rfl) ?_
  refine lv_aload_n hx hb d_Law_law_224 rfl (lv_at hl 0 rfl) ?_
  refine lv_iload hx hb d_Law_law_225 (lv_at hl 4 rfl) ?_
  refine lv_iconst (v := 1) hx hb d_Law_law_227 (by decide) ?_
  refine lv_iadd hx hb d_Law_law_228 ?_
  refine va_sld hx hb hX hbl hbA hS hv1 d_Law_law_229 ?_
  refine lv_topi (fun v1 ev1 => ?_)
  refine lv_if_eq (tgt := 237) hx hb d_Law_law_230 (by decide) (fun c2 => ?_) (fun c2 => ?_)
  · refine lv_iconst (v := 0) hx hb d_Law_law_237 (by decide) ?_
    refine lv_topi (fun x3 ex3 => ?_)
    have hx3 : x3 = 0 ∨ x3 = 1 := Or.inl ex3
    refine lv_aload_n hx hb d_Law_law_238 rfl (lv_at hl 0 rfl) ?_
    refine lv_iload hx hb d_Law_law_239 (lv_at hl 4 rfl) ?_
    refine lv_iconst (v := 2) hx hb d_Law_law_241 (by decide) ?_
    refine lv_iadd hx hb d_Law_law_242 ?_
    refine va_sld hx hb hX hbl hbA hS hv2 d_Law_law_243 ?_
    refine lv_topi (fun v4 ev4 => ?_)
    refine lv_aload_n hx hb d_Law_law_244 rfl (lv_at hl 0 rfl) ?_
    refine lv_iload hx hb d_Law_law_245 (lv_at hl 4 rfl) ?_
    refine lv_iconst (v := 3) hx hb d_Law_law_247 (by decide) ?_
    refine lv_iadd hx hb d_Law_law_248 ?_
    refine va_sld hx hb hX hbl hbA hS hv3 d_Law_law_249 ?_
    refine lv_topi (fun v5 ev5 => ?_)
    refine lv_aload_n hx hb d_Law_law_250 rfl (lv_at hl 0 rfl) ?_
    refine lv_iload hx hb d_Law_law_251 (lv_at hl 4 rfl) ?_
    refine lv_iconst (v := 4) hx hb d_Law_law_253 (by decide) ?_
    refine lv_iadd hx hb d_Law_law_254 ?_
    refine va_sld hx hb hX hbl hbA hS hv4 d_Law_law_255 ?_
    refine lv_topi (fun v6 ev6 => ?_)
    refine kci (wc := [(h0, .inr (8, [.ref zr, .ref zc, .ref yc, .ref zs, .ref zw, .ref zv, .ref zt, .ref zd, .ref ze, .int so, .int sr, .int dr, .int dw])), (zr, .inr (0, [.ref za, .int u])), (za, .inl (k.1, n, .inl f)), (zc, .inr (1, [.ref zf, .ref zg])), (zf, .inl (k.1, 19, .inl sf)), (zg, .inl (k.1, 19, .inl lf)), (yc, .inr (1, [.ref yf, .ref yg])), (yf, .inl (k.1, 19, .inl tf)), (yg, .inl (k.1, 19, .inl mf)), (zs, .inr (2, [.ref zr, .int a])), (zw, .inr (4, [.ref zs, .ref zc, .int lo, .int sz, .int rm])), (zv, .inr (6, [.ref zs, .int rw])), (zt, .inr (3, [.ref zr, .int pl, .int ln, .int cm])), (zd, .inr (5, [.ref zt, .ref yc, .int la, .int va, .int sy, .int ry])), (ze, .inr (7, [.ref zt, .int lb, .int le]))]) (wr := [(Mh, .inr (9, [.ref pP, .ref pO, .int Mth, .int Msz, .ref pB, .ref pS, .ref pK, .int op, .int Mrw, .int bg, .int Mlo, .int cd, .int wd, .int Mrm, .int rg, .int rr, .int Mpl, .int lm, .int nx, .long av, .int sp, .int Mle, .int Mla])), (pP, .inl (k.1, 47, .inl tfP)), (pO, .inl (k.1, 47, .inl tfO)), (pB, .inl (k.1, 65536, .inl MB)), (pS, .inl (k.1, 38, .inl S)), (pK, .inl (k.1, 38, .inl K)), (qo, .inl (k.2.1, 1, .inr (.inl fo)))]) (vx_runSW (As := [.ref h0, .int x3, .int v4, .int v5, .int v6]) (rest := []) ⟨hx, hb, hml, hown, hts⟩ (c_Law_context l hl9 D k h0 zr za zc zf zg yc yf yg zs zw zv zt zd ze H.size so sr dr dw n f u L sf lf tf mf a lo sz rm rw pl ln cm la va sy ry lb le x3 v4 v5 v6 ) (vx_cwSW 5 hts (gSW mw_496 mw_497 mw_479 mw_498) rfl rfl rfl (by decide +kernel) ⟨(Nat.le_of_ble_eq_true rfl), (Nat.le_of_ble_eq_true rfl)⟩) (kPre (wc := [(h0, .inr (8, [.ref zr, .ref zc, .ref yc, .ref zs, .ref zw, .ref zv, .ref zt, .ref zd, .ref ze, .int so, .int sr, .int dr, .int dw])), (zr, .inr (0, [.ref za, .int u])), (za, .inl (k.1, n, .inl f)), (zc, .inr (1, [.ref zf, .ref zg])), (zf, .inl (k.1, 19, .inl sf)), (zg, .inl (k.1, 19, .inl lf)), (yc, .inr (1, [.ref yf, .ref yg])), (yf, .inl (k.1, 19, .inl tf)), (yg, .inl (k.1, 19, .inl mf)), (zs, .inr (2, [.ref zr, .int a])), (zw, .inr (4, [.ref zs, .ref zc, .int lo, .int sz, .int rm])), (zv, .inr (6, [.ref zs, .int rw])), (zt, .inr (3, [.ref zr, .int pl, .int ln, .int cm])), (zd, .inr (5, [.ref zt, .ref yc, .int la, .int va, .int sy, .int ry])), (ze, .inr (7, [.ref zt, .int lb, .int le]))]) hE hK hP hD hS hA [0, 1, 2, 3, 4, 5, 6, 7, 8, 9, 10, 11, 12, 13, 14] rfl (by decide)) rfl rfl hl.1 rfl (lv_room (Nat.le_of_ble_eq_true rfl)) d_Law_law_256 ⟨(by show _ ≤ 601024; omega), (by show _ ≤ 7293034; omega)⟩) hP hD hS hA [0, 1, 2, 3, 4, 5, 6, 7, 8, 9, 10, 11, 12, 13, 14] [15, 16, 17, 18, 19, 20, 21] rfl rfl (by decide) (by decide) (fun r11 zz uu H locs hw12 hz13 hP hD hS => ?_)
    obtain ⟨sf_7, lf_8, tf_9, mf_10⟩ := uu
    have hw12 : r11 = cte v4 v5 v6 ∧ (cte v4 v5 v6 = 0 → sf_7 = (if x3 = 0 then (cset sf lf v4 v5 v6).1 else sf) ∧ lf_8 = (if x3 = 0 then (cset sf lf v4 v5 v6).2 else lf) ∧ tf_9 = (if x3 = 0 then tf else (cset tf mf v4 v5 v6).1) ∧ mf_10 = (if x3 = 0 then mf else (cset tf mf v4 v5 v6).2)) ∧ (¬ cte v4 v5 v6 = 0 → sf_7 = sf ∧ lf_8 = lf ∧ tf_9 = tf ∧ mf_10 = mf) := hw12
    have hP : va_P D vwCl [(Mh, .inr (9, [.ref pP, .ref pO, .int Mth, .int Msz, .ref pB, .ref pS, .ref pK, .int op, .int Mrw, .int bg, .int Mlo, .int cd, .int wd, .int Mrm, .int rg, .int rr, .int Mpl, .int lm, .int nx, .long av, .int sp, .int Mle, .int Mla])), (pP, .inl (k.1, 47, .inl tfP)), (pO, .inl (k.1, 47, .inl tfO)), (pB, .inl (k.1, 65536, .inl MB)), (pS, .inl (k.1, 38, .inl S)), (pK, .inl (k.1, 38, .inl K)), (qo, .inl (k.2.1, 1, .inr (.inl fo))), (h0, .inr (8, [.ref zr, .ref zc, .ref yc, .ref zs, .ref zw, .ref zv, .ref zt, .ref zd, .ref ze, .int so, .int sr, .int dr, .int dw])), (zr, .inr (0, [.ref za, .int u])), (za, .inl (k.1, n, .inl f)), (zc, .inr (1, [.ref zf, .ref zg])), (zf, .inl (k.1, 19, .inl sf_7)), (zg, .inl (k.1, 19, .inl lf_8)), (yc, .inr (1, [.ref yf, .ref yg])), (yf, .inl (k.1, 19, .inl tf_9)), (yg, .inl (k.1, 19, .inl mf_10)), (zs, .inr (2, [.ref zr, .int a])), (zw, .inr (4, [.ref zs, .ref zc, .int lo, .int sz, .int rm])), (zv, .inr (6, [.ref zs, .int rw])), (zt, .inr (3, [.ref zr, .int pl, .int ln, .int cm])), (zd, .inr (5, [.ref zt, .ref yc, .int la, .int va, .int sy, .int ry])), (ze, .inr (7, [.ref zt, .int lb, .int le]))] H := hP
    have hD : va_D A [(Mh, .inr (9, [.ref pP, .ref pO, .int Mth, .int Msz, .ref pB, .ref pS, .ref pK, .int op, .int Mrw, .int bg, .int Mlo, .int cd, .int wd, .int Mrm, .int rg, .int rr, .int Mpl, .int lm, .int nx, .long av, .int sp, .int Mle, .int Mla])), (pP, .inl (k.1, 47, .inl tfP)), (pO, .inl (k.1, 47, .inl tfO)), (pB, .inl (k.1, 65536, .inl MB)), (pS, .inl (k.1, 38, .inl S)), (pK, .inl (k.1, 38, .inl K)), (qo, .inl (k.2.1, 1, .inr (.inl fo))), (h0, .inr (8, [.ref zr, .ref zc, .ref yc, .ref zs, .ref zw, .ref zv, .ref zt, .ref zd, .ref ze, .int so, .int sr, .int dr, .int dw])), (zr, .inr (0, [.ref za, .int u])), (za, .inl (k.1, n, .inl f)), (zc, .inr (1, [.ref zf, .ref zg])), (zf, .inl (k.1, 19, .inl sf_7)), (zg, .inl (k.1, 19, .inl lf_8)), (yc, .inr (1, [.ref yf, .ref yg])), (yf, .inl (k.1, 19, .inl tf_9)), (yg, .inl (k.1, 19, .inl mf_10)), (zs, .inr (2, [.ref zr, .int a])), (zw, .inr (4, [.ref zs, .ref zc, .int lo, .int sz, .int rm])), (zv, .inr (6, [.ref zs, .int rw])), (zt, .inr (3, [.ref zr, .int pl, .int ln, .int cm])), (zd, .inr (5, [.ref zt, .ref yc, .int la, .int va, .int sy, .int ry])), (ze, .inr (7, [.ref zt, .int lb, .int le]))] := hD
    refine lv_istore (lv' := [(5, .int r11), (0, .ref b), (1, .ref h0), (2, .ref Mh), (3, .ref qo), (4, .int i)]) hx hb d_Law_law_259 hl (by decide) rfl (fun ls hl => ?_)
    refine lv_aload_n hx hb d_Law_law_261 rfl (lv_at hl 3 rfl) ?_
    refine lv_aload_n hx hb d_Law_law_262 rfl (lv_at hl 1 rfl) ?_
    refine lv_iload hx hb d_Law_law_263 (lv_at hl 5 rfl) ?_
    refine lv_iconst (v := 1) hx hb d_Law_law_265 (by decide) ?_
    refine lv_iadd hx hb d_Law_law_266 ?_
    refine va_sld hx hb hX hbl hbA hS hv1 d_Law_law_267 ?_
    refine lv_topi (fun v14 ev14 => ?_)
    obtain rfl : v1 = v14 := ev1.trans ev14.symm
    refine lv_if_eq (tgt := 275) hx hb d_Law_law_268 (by decide) (fun c15 => ?_) (fun c15 => ?_)
    · refine lv_iconst (v := 0) hx hb d_Law_law_275 (by decide) ?_
      refine lv_topi (fun x16 ex16 => ?_)
      obtain rfl : x3 = x16 := ex3.trans ex16.symm
      refine lv_aload_n hx hb d_Law_law_276 rfl (lv_at hl 1 rfl) ?_
      refine lv_iload hx hb d_Law_law_277 (lv_at hl 5 rfl) ?_
      refine lv_iconst (v := 2) hx hb d_Law_law_279 (by decide) ?_
      refine lv_iadd hx hb d_Law_law_280 ?_
      refine va_sld hx hb hX hbl hbA hS hv2 d_Law_law_281 ?_
      refine lv_topi (fun v17 ev17 => ?_)
      obtain rfl : v4 = v17 := ev4.trans ev17.symm
      refine lv_aload_n hx hb d_Law_law_282 rfl (lv_at hl 1 rfl) ?_
      refine lv_iload hx hb d_Law_law_283 (lv_at hl 5 rfl) ?_
      refine lv_iconst (v := 3) hx hb d_Law_law_285 (by decide) ?_
      refine lv_iadd hx hb d_Law_law_286 ?_
      refine va_sld hx hb hX hbl hbA hS hv3 d_Law_law_287 ?_
      refine lv_topi (fun v18 ev18 => ?_)
      obtain rfl : v5 = v18 := ev5.trans ev18.symm
      refine lv_aload_n hx hb d_Law_law_288 rfl (lv_at hl 1 rfl) ?_
      refine lv_iload hx hb d_Law_law_289 (lv_at hl 5 rfl) ?_
      refine lv_iconst (v := 4) hx hb d_Law_law_291 (by decide) ?_
      refine lv_iadd hx hb d_Law_law_292 ?_
      refine va_sld hx hb hX hbl hbA hS hv4 d_Law_law_293 ?_
      refine lv_topi (fun v19 ev19 => ?_)
      obtain rfl : v6 = v19 := ev6.trans ev19.symm
      refine kcv (wc := [(Mh, .inr (9, [.ref pP, .ref pO, .int Mth, .int Msz, .ref pB, .ref pS, .ref pK, .int op, .int Mrw, .int bg, .int Mlo, .int cd, .int wd, .int Mrm, .int rg, .int rr, .int Mpl, .int lm, .int nx, .long av, .int sp, .int Mle, .int Mla])), (pS, .inl (k.1, 38, .inl S)), (pK, .inl (k.1, 38, .inl K))]) (wr := [(pP, .inl (k.1, 47, .inl tfP)), (pO, .inl (k.1, 47, .inl tfO)), (pB, .inl (k.1, 65536, .inl MB)), (qo, .inl (k.2.1, 1, .inr (.inl fo))), (h0, .inr (8, [.ref zr, .ref zc, .ref yc, .ref zs, .ref zw, .ref zv, .ref zt, .ref zd, .ref ze, .int so, .int sr, .int dr, .int dw])), (zr, .inr (0, [.ref za, .int u])), (za, .inl (k.1, n, .inl f)), (zc, .inr (1, [.ref zf, .ref zg])), (zf, .inl (k.1, 19, .inl sf_7)), (zg, .inl (k.1, 19, .inl lf_8)), (yc, .inr (1, [.ref yf, .ref yg])), (yf, .inl (k.1, 19, .inl tf_9)), (yg, .inl (k.1, 19, .inl mf_10)), (zs, .inr (2, [.ref zr, .int a])), (zw, .inr (4, [.ref zs, .ref zc, .int lo, .int sz, .int rm])), (zv, .inr (6, [.ref zs, .int rw])), (zt, .inr (3, [.ref zr, .int pl, .int ln, .int cm])), (zd, .inr (5, [.ref zt, .ref yc, .int la, .int va, .int sy, .int ry])), (ze, .inr (7, [.ref zt, .int lb, .int le]))]) (va_runV (As := [.int x3, .int v4, .int v5, .int v6]) (rest := []) ⟨hx, hb, hml, hown, hts⟩ (c_M_context l hl9 D k Mh pS pK H.size pP pO pB Mth Msz op Mrw bg Mlo cd wd Mrm rg rr Mpl lm nx av sp Mle Mla S K x3 v4 v5 v6 ) (cwV 4 hts (gV mw_499 mw_500 mw_501 mw_331 mw_502) rfl rfl rfl (by decide +kernel) ⟨(Nat.le_of_ble_eq_true rfl), (Nat.le_of_ble_eq_true rfl)⟩) (kRecv (q := (R_Mdl, T_Mdl, 23)) (q0 := 0) (ci := 9) hK hP rfl rfl (kPre (wc := [(Mh, .inr (9, [.ref pP, .ref pO, .int Mth, .int Msz, .ref pB, .ref pS, .ref pK, .int op, .int Mrw, .int bg, .int Mlo, .int cd, .int wd, .int Mrm, .int rg, .int rr, .int Mpl, .int lm, .int nx, .long av, .int sp, .int Mle, .int Mla])), (pS, .inl (k.1, 38, .inl S)), (pK, .inl (k.1, 38, .inl K))]) hE hK hP hD hS hA [0, 4, 5] rfl (by decide))) rfl rfl hl.1 rfl (lv_room (Nat.le_of_ble_eq_true rfl)) d_Law_law_294 ⟨(by show _ ≤ 601024; omega), (by show _ ≤ 7293034; omega)⟩) hP hD hS hA [0, 4, 5] [1, 2, 3, 6, 7, 8, 9, 10, 11, 12, 13, 14, 15, 16, 17, 18, 19, 20, 21] rfl rfl (by decide) (by decide) (fun zz uu H locs hw24 hz25 hP hD hS => ?_)
      obtain ⟨th_20, S_21, K_22⟩ := uu
      have hw24 : th_20 = mxc v4 v5 v6 ∧ S_21 = (if mxc v4 v5 v6 ≤ 0 then upd S (mix x3 v4).toNatClampNeg v5 else S) ∧ K_22 = (if mxc v4 v5 v6 ≤ 0 then upd K (mix x3 v4).toNatClampNeg v6 else K) := hw24
      have hP : va_P D vwCl [(pP, .inl (k.1, 47, .inl tfP)), (pO, .inl (k.1, 47, .inl tfO)), (pB, .inl (k.1, 65536, .inl MB)), (qo, .inl (k.2.1, 1, .inr (.inl fo))), (h0, .inr (8, [.ref zr, .ref zc, .ref yc, .ref zs, .ref zw, .ref zv, .ref zt, .ref zd, .ref ze, .int so, .int sr, .int dr, .int dw])), (zr, .inr (0, [.ref za, .int u])), (za, .inl (k.1, n, .inl f)), (zc, .inr (1, [.ref zf, .ref zg])), (zf, .inl (k.1, 19, .inl sf_7)), (zg, .inl (k.1, 19, .inl lf_8)), (yc, .inr (1, [.ref yf, .ref yg])), (yf, .inl (k.1, 19, .inl tf_9)), (yg, .inl (k.1, 19, .inl mf_10)), (zs, .inr (2, [.ref zr, .int a])), (zw, .inr (4, [.ref zs, .ref zc, .int lo, .int sz, .int rm])), (zv, .inr (6, [.ref zs, .int rw])), (zt, .inr (3, [.ref zr, .int pl, .int ln, .int cm])), (zd, .inr (5, [.ref zt, .ref yc, .int la, .int va, .int sy, .int ry])), (ze, .inr (7, [.ref zt, .int lb, .int le])), (Mh, .inr (9, [.ref pP, .ref pO, .int th_20, .int Msz, .ref pB, .ref pS, .ref pK, .int op, .int Mrw, .int bg, .int Mlo, .int cd, .int wd, .int Mrm, .int rg, .int rr, .int Mpl, .int lm, .int nx, .long av, .int sp, .int Mle, .int Mla])), (pS, .inl (k.1, 38, .inl S_21)), (pK, .inl (k.1, 38, .inl K_22))] H := hP
      have hD : va_D A [(pP, .inl (k.1, 47, .inl tfP)), (pO, .inl (k.1, 47, .inl tfO)), (pB, .inl (k.1, 65536, .inl MB)), (qo, .inl (k.2.1, 1, .inr (.inl fo))), (h0, .inr (8, [.ref zr, .ref zc, .ref yc, .ref zs, .ref zw, .ref zv, .ref zt, .ref zd, .ref ze, .int so, .int sr, .int dr, .int dw])), (zr, .inr (0, [.ref za, .int u])), (za, .inl (k.1, n, .inl f)), (zc, .inr (1, [.ref zf, .ref zg])), (zf, .inl (k.1, 19, .inl sf_7)), (zg, .inl (k.1, 19, .inl lf_8)), (yc, .inr (1, [.ref yf, .ref yg])), (yf, .inl (k.1, 19, .inl tf_9)), (yg, .inl (k.1, 19, .inl mf_10)), (zs, .inr (2, [.ref zr, .int a])), (zw, .inr (4, [.ref zs, .ref zc, .int lo, .int sz, .int rm])), (zv, .inr (6, [.ref zs, .int rw])), (zt, .inr (3, [.ref zr, .int pl, .int ln, .int cm])), (zd, .inr (5, [.ref zt, .ref yc, .int la, .int va, .int sy, .int ry])), (ze, .inr (7, [.ref zt, .int lb, .int le])), (Mh, .inr (9, [.ref pP, .ref pO, .int th_20, .int Msz, .ref pB, .ref pS, .ref pK, .int op, .int Mrw, .int bg, .int Mlo, .int cd, .int wd, .int Mrm, .int rg, .int rr, .int Mpl, .int lm, .int nx, .long av, .int sp, .int Mle, .int Mla])), (pS, .inl (k.1, 38, .inl S_21)), (pK, .inl (k.1, 38, .inl K_22))] := hD
      have hst := st_context hC hw12 hw24
      refine lv_aload_n hx hb d_Law_law_297 rfl (lv_at hl 3 rfl) ?_
      refine kqi (va_runV (As := []) (rest := []) ⟨hx, hb, hml, hown, hts⟩ (c_M_thrown l hl9 D k Mh pP pO pB pS pK th_20 Msz op Mrw bg Mlo cd wd Mrm rg rr Mpl lm nx av sp Mle Mla ) (cwV 0 hts (gV mw_485 mw_486 mw_487 mw_331 mw_488) rfl rfl rfl (by decide +kernel) ⟨(Nat.le_of_ble_eq_true rfl), (Nat.le_of_ble_eq_true rfl)⟩) (kRecv (q := (R_Mdl, T_Mdl, 23)) (q0 := 19) (ci := 9) hK hP rfl rfl (kPreR (wc := [(Mh, .inr (9, [.ref pP, .ref pO, .int th_20, .int Msz, .ref pB, .ref pS, .ref pK, .int op, .int Mrw, .int bg, .int Mlo, .int cd, .int wd, .int Mrm, .int rg, .int rr, .int Mpl, .int lm, .int nx, .long av, .int sp, .int Mle, .int Mla]))]) hE hK hP hS [19] rfl)) rfl rfl hl.1 rfl (lv_room (Nat.le_of_ble_eq_true rfl)) d_Law_law_298 ⟨(by show _ ≤ 601024; omega), (by show _ ≤ 7293034; omega)⟩) hP hS (fun r26 H locs hw hP hS => ?_)
      replace hw := hw.symm
      subst hw
      refine lv_iload hx hb d_Law_law_301 (lv_at hl 0 rfl) ?_
      refine lv_icmp_eq (tgt := 308) hx hb d_Law_law_303 (by decide) (fun c27 => ?_) (fun c27 => ?_)
      · refine lv_goto (tgt := 827) hx hb d_Law_law_308 (by decide) ?_
        exact ih za n f u L sf_7 lf_8 tf_9 mf_10 so sr dr dw a lo sz rm rw pl ln cm la va sy ry lb le th_20 Msz op Mrw bg Mlo cd wd Mrm rg rr Mpl lm nx av sp Mle Mla MB S_21 K_22 fo hst.2 hW (RJ_s hJ) hR hM H _ _ _ ⟨by omega, by omega⟩ (ka_P hP (is := [4, 5, 6, 7, 8, 9, 10, 11, 12, 13, 14, 15, 16, 17, 18, 19, 0, 1, 2, 20, 21, 3]) rfl) (hD.sub [4, 5, 6, 7, 8, 9, 10, 11, 12, 13, 14, 15, 16, 17, 18, 19, 0, 1, 2, 20, 21, 3] (by decide) rfl) hS ls (lv_sub hl [1, 2, 3, 4, 5] rfl)
      · exact absurd hst.1 c27
    · exact absurd c2 c15
  · refine lv_iconst (v := 1) hx hb d_Law_law_233 (by decide) ?_
    refine lv_goto (tgt := 238) hx hb d_Law_law_234 (by decide) ?_
    refine lv_topi (fun x28 ex28 => ?_)
    have hx28 : x28 = 0 ∨ x28 = 1 := Or.inr ex28
    refine lv_aload_n hx hb d_Law_law_238 rfl (lv_at hl 0 rfl) ?_
    refine lv_iload hx hb d_Law_law_239 (lv_at hl 4 rfl) ?_
    refine lv_iconst (v := 2) hx hb d_Law_law_241 (by decide) ?_
    refine lv_iadd hx hb d_Law_law_242 ?_
    refine va_sld hx hb hX hbl hbA hS hv2 d_Law_law_243 ?_
    refine lv_topi (fun v29 ev29 => ?_)
    refine lv_aload_n hx hb d_Law_law_244 rfl (lv_at hl 0 rfl) ?_
    refine lv_iload hx hb d_Law_law_245 (lv_at hl 4 rfl) ?_
    refine lv_iconst (v := 3) hx hb d_Law_law_247 (by decide) ?_
    refine lv_iadd hx hb d_Law_law_248 ?_
    refine va_sld hx hb hX hbl hbA hS hv3 d_Law_law_249 ?_
    refine lv_topi (fun v30 ev30 => ?_)
    refine lv_aload_n hx hb d_Law_law_250 rfl (lv_at hl 0 rfl) ?_
    refine lv_iload hx hb d_Law_law_251 (lv_at hl 4 rfl) ?_
    refine lv_iconst (v := 4) hx hb d_Law_law_253 (by decide) ?_
    refine lv_iadd hx hb d_Law_law_254 ?_
    refine va_sld hx hb hX hbl hbA hS hv4 d_Law_law_255 ?_
    refine lv_topi (fun v31 ev31 => ?_)
    refine kci (wc := [(h0, .inr (8, [.ref zr, .ref zc, .ref yc, .ref zs, .ref zw, .ref zv, .ref zt, .ref zd, .ref ze, .int so, .int sr, .int dr, .int dw])), (zr, .inr (0, [.ref za, .int u])), (za, .inl (k.1, n, .inl f)), (zc, .inr (1, [.ref zf, .ref zg])), (zf, .inl (k.1, 19, .inl sf)), (zg, .inl (k.1, 19, .inl lf)), (yc, .inr (1, [.ref yf, .ref yg])), (yf, .inl (k.1, 19, .inl tf)), (yg, .inl (k.1, 19, .inl mf)), (zs, .inr (2, [.ref zr, .int a])), (zw, .inr (4, [.ref zs, .ref zc, .int lo, .int sz, .int rm])), (zv, .inr (6, [.ref zs, .int rw])), (zt, .inr (3, [.ref zr, .int pl, .int ln, .int cm])), (zd, .inr (5, [.ref zt, .ref yc, .int la, .int va, .int sy, .int ry])), (ze, .inr (7, [.ref zt, .int lb, .int le]))]) (wr := [(Mh, .inr (9, [.ref pP, .ref pO, .int Mth, .int Msz, .ref pB, .ref pS, .ref pK, .int op, .int Mrw, .int bg, .int Mlo, .int cd, .int wd, .int Mrm, .int rg, .int rr, .int Mpl, .int lm, .int nx, .long av, .int sp, .int Mle, .int Mla])), (pP, .inl (k.1, 47, .inl tfP)), (pO, .inl (k.1, 47, .inl tfO)), (pB, .inl (k.1, 65536, .inl MB)), (pS, .inl (k.1, 38, .inl S)), (pK, .inl (k.1, 38, .inl K)), (qo, .inl (k.2.1, 1, .inr (.inl fo)))]) (vx_runSW (As := [.ref h0, .int x28, .int v29, .int v30, .int v31]) (rest := []) ⟨hx, hb, hml, hown, hts⟩ (c_Law_context l hl9 D k h0 zr za zc zf zg yc yf yg zs zw zv zt zd ze H.size so sr dr dw n f u L sf lf tf mf a lo sz rm rw pl ln cm la va sy ry lb le x28 v29 v30 v31 ) (vx_cwSW 5 hts (gSW mw_496 mw_497 mw_479 mw_498) rfl rfl rfl (by decide +kernel) ⟨(Nat.le_of_ble_eq_true rfl), (Nat.le_of_ble_eq_true rfl)⟩) (kPre (wc := [(h0, .inr (8, [.ref zr, .ref zc, .ref yc, .ref zs, .ref zw, .ref zv, .ref zt, .ref zd, .ref ze, .int so, .int sr, .int dr, .int dw])), (zr, .inr (0, [.ref za, .int u])), (za, .inl (k.1, n, .inl f)), (zc, .inr (1, [.ref zf, .ref zg])), (zf, .inl (k.1, 19, .inl sf)), (zg, .inl (k.1, 19, .inl lf)), (yc, .inr (1, [.ref yf, .ref yg])), (yf, .inl (k.1, 19, .inl tf)), (yg, .inl (k.1, 19, .inl mf)), (zs, .inr (2, [.ref zr, .int a])), (zw, .inr (4, [.ref zs, .ref zc, .int lo, .int sz, .int rm])), (zv, .inr (6, [.ref zs, .int rw])), (zt, .inr (3, [.ref zr, .int pl, .int ln, .int cm])), (zd, .inr (5, [.ref zt, .ref yc, .int la, .int va, .int sy, .int ry])), (ze, .inr (7, [.ref zt, .int lb, .int le]))]) hE hK hP hD hS hA [0, 1, 2, 3, 4, 5, 6, 7, 8, 9, 10, 11, 12, 13, 14] rfl (by decide)) rfl rfl hl.1 rfl (lv_room (Nat.le_of_ble_eq_true rfl)) d_Law_law_256 ⟨(by show _ ≤ 601024; omega), (by show _ ≤ 7293034; omega)⟩) hP hD hS hA [0, 1, 2, 3, 4, 5, 6, 7, 8, 9, 10, 11, 12, 13, 14] [15, 16, 17, 18, 19, 20, 21] rfl rfl (by decide) (by decide) (fun r36 zz uu H locs hw37 hz38 hP hD hS => ?_)
    obtain ⟨sf_32, lf_33, tf_34, mf_35⟩ := uu
    have hw37 : r36 = cte v29 v30 v31 ∧ (cte v29 v30 v31 = 0 → sf_32 = (if x28 = 0 then (cset sf lf v29 v30 v31).1 else sf) ∧ lf_33 = (if x28 = 0 then (cset sf lf v29 v30 v31).2 else lf) ∧ tf_34 = (if x28 = 0 then tf else (cset tf mf v29 v30 v31).1) ∧ mf_35 = (if x28 = 0 then mf else (cset tf mf v29 v30 v31).2)) ∧ (¬ cte v29 v30 v31 = 0 → sf_32 = sf ∧ lf_33 = lf ∧ tf_34 = tf ∧ mf_35 = mf) := hw37
    have hP : va_P D vwCl [(Mh, .inr (9, [.ref pP, .ref pO, .int Mth, .int Msz, .ref pB, .ref pS, .ref pK, .int op, .int Mrw, .int bg, .int Mlo, .int cd, .int wd, .int Mrm, .int rg, .int rr, .int Mpl, .int lm, .int nx, .long av, .int sp, .int Mle, .int Mla])), (pP, .inl (k.1, 47, .inl tfP)), (pO, .inl (k.1, 47, .inl tfO)), (pB, .inl (k.1, 65536, .inl MB)), (pS, .inl (k.1, 38, .inl S)), (pK, .inl (k.1, 38, .inl K)), (qo, .inl (k.2.1, 1, .inr (.inl fo))), (h0, .inr (8, [.ref zr, .ref zc, .ref yc, .ref zs, .ref zw, .ref zv, .ref zt, .ref zd, .ref ze, .int so, .int sr, .int dr, .int dw])), (zr, .inr (0, [.ref za, .int u])), (za, .inl (k.1, n, .inl f)), (zc, .inr (1, [.ref zf, .ref zg])), (zf, .inl (k.1, 19, .inl sf_32)), (zg, .inl (k.1, 19, .inl lf_33)), (yc, .inr (1, [.ref yf, .ref yg])), (yf, .inl (k.1, 19, .inl tf_34)), (yg, .inl (k.1, 19, .inl mf_35)), (zs, .inr (2, [.ref zr, .int a])), (zw, .inr (4, [.ref zs, .ref zc, .int lo, .int sz, .int rm])), (zv, .inr (6, [.ref zs, .int rw])), (zt, .inr (3, [.ref zr, .int pl, .int ln, .int cm])), (zd, .inr (5, [.ref zt, .ref yc, .int la, .int va, .int sy, .int ry])), (ze, .inr (7, [.ref zt, .int lb, .int le]))] H := hP
    have hD : va_D A [(Mh, .inr (9, [.ref pP, .ref pO, .int Mth, .int Msz, .ref pB, .ref pS, .ref pK, .int op, .int Mrw, .int bg, .int Mlo, .int cd, .int wd, .int Mrm, .int rg, .int rr, .int Mpl, .int lm, .int nx, .long av, .int sp, .int Mle, .int Mla])), (pP, .inl (k.1, 47, .inl tfP)), (pO, .inl (k.1, 47, .inl tfO)), (pB, .inl (k.1, 65536, .inl MB)), (pS, .inl (k.1, 38, .inl S)), (pK, .inl (k.1, 38, .inl K)), (qo, .inl (k.2.1, 1, .inr (.inl fo))), (h0, .inr (8, [.ref zr, .ref zc, .ref yc, .ref zs, .ref zw, .ref zv, .ref zt, .ref zd, .ref ze, .int so, .int sr, .int dr, .int dw])), (zr, .inr (0, [.ref za, .int u])), (za, .inl (k.1, n, .inl f)), (zc, .inr (1, [.ref zf, .ref zg])), (zf, .inl (k.1, 19, .inl sf_32)), (zg, .inl (k.1, 19, .inl lf_33)), (yc, .inr (1, [.ref yf, .ref yg])), (yf, .inl (k.1, 19, .inl tf_34)), (yg, .inl (k.1, 19, .inl mf_35)), (zs, .inr (2, [.ref zr, .int a])), (zw, .inr (4, [.ref zs, .ref zc, .int lo, .int sz, .int rm])), (zv, .inr (6, [.ref zs, .int rw])), (zt, .inr (3, [.ref zr, .int pl, .int ln, .int cm])), (zd, .inr (5, [.ref zt, .ref yc, .int la, .int va, .int sy, .int ry])), (ze, .inr (7, [.ref zt, .int lb, .int le]))] := hD
    refine lv_istore (lv' := [(5, .int r36), (0, .ref b), (1, .ref h0), (2, .ref Mh), (3, .ref qo), (4, .int i)]) hx hb d_Law_law_259 hl (by decide) rfl (fun ls hl => ?_)
    refine lv_aload_n hx hb d_Law_law_261 rfl (lv_at hl 3 rfl) ?_
    refine lv_aload_n hx hb d_Law_law_262 rfl (lv_at hl 1 rfl) ?_
    refine lv_iload hx hb d_Law_law_263 (lv_at hl 5 rfl) ?_
    refine lv_iconst (v := 1) hx hb d_Law_law_265 (by decide) ?_
    refine lv_iadd hx hb d_Law_law_266 ?_
    refine va_sld hx hb hX hbl hbA hS hv1 d_Law_law_267 ?_
    refine lv_topi (fun v39 ev39 => ?_)
    obtain rfl : v1 = v39 := ev1.trans ev39.symm
    refine lv_if_eq (tgt := 275) hx hb d_Law_law_268 (by decide) (fun c40 => ?_) (fun c40 => ?_)
    · exact absurd c40 c2
    · refine lv_iconst (v := 1) hx hb d_Law_law_271 (by decide) ?_
      refine lv_goto (tgt := 276) hx hb d_Law_law_272 (by decide) ?_
      refine lv_topi (fun x41 ex41 => ?_)
      obtain rfl : x28 = x41 := ex28.trans ex41.symm
      refine lv_aload_n hx hb d_Law_law_276 rfl (lv_at hl 1 rfl) ?_
      refine lv_iload hx hb d_Law_law_277 (lv_at hl 5 rfl) ?_
      refine lv_iconst (v := 2) hx hb d_Law_law_279 (by decide) ?_
      refine lv_iadd hx hb d_Law_law_280 ?_
      refine va_sld hx hb hX hbl hbA hS hv2 d_Law_law_281 ?_
      refine lv_topi (fun v42 ev42 => ?_)
      obtain rfl : v29 = v42 := ev29.trans ev42.symm
      refine lv_aload_n hx hb d_Law_law_282 rfl (lv_at hl 1 rfl) ?_
      refine lv_iload hx hb d_Law_law_283 (lv_at hl 5 rfl) ?_
      refine lv_iconst (v := 3) hx hb d_Law_law_285 (by decide) ?_
      refine lv_iadd hx hb d_Law_law_286 ?_
      refine va_sld hx hb hX hbl hbA hS hv3 d_Law_law_287 ?_
      refine lv_topi (fun v43 ev43 => ?_)
      obtain rfl : v30 = v43 := ev30.trans ev43.symm
      refine lv_aload_n hx hb d_Law_law_288 rfl (lv_at hl 1 rfl) ?_
      refine lv_iload hx hb d_Law_law_289 (lv_at hl 5 rfl) ?_
      refine lv_iconst (v := 4) hx hb d_Law_law_291 (by decide) ?_
      refine lv_iadd hx hb d_Law_law_292 ?_
      refine va_sld hx hb hX hbl hbA hS hv4 d_Law_law_293 ?_
      refine lv_topi (fun v44 ev44 => ?_)
      obtain rfl : v31 = v44 := ev31.trans ev44.symm
      refine kcv (wc := [(Mh, .inr (9, [.ref pP, .ref pO, .int Mth, .int Msz, .ref pB, .ref pS, .ref pK, .int op, .int Mrw, .int bg, .int Mlo, .int cd, .int wd, .int Mrm, .int rg, .int rr, .int Mpl, .int lm, .int nx, .long av, .int sp, .int Mle, .int Mla])), (pS, .inl (k.1, 38, .inl S)), (pK, .inl (k.1, 38, .inl K))]) (wr := [(pP, .inl (k.1, 47, .inl tfP)), (pO, .inl (k.1, 47, .inl tfO)), (pB, .inl (k.1, 65536, .inl MB)), (qo, .inl (k.2.1, 1, .inr (.inl fo))), (h0, .inr (8, [.ref zr, .ref zc, .ref yc, .ref zs, .ref zw, .ref zv, .ref zt, .ref zd, .ref ze, .int so, .int sr, .int dr, .int dw])), (zr, .inr (0, [.ref za, .int u])), (za, .inl (k.1, n, .inl f)), (zc, .inr (1, [.ref zf, .ref zg])), (zf, .inl (k.1, 19, .inl sf_32)), (zg, .inl (k.1, 19, .inl lf_33)), (yc, .inr (1, [.ref yf, .ref yg])), (yf, .inl (k.1, 19, .inl tf_34)), (yg, .inl (k.1, 19, .inl mf_35)), (zs, .inr (2, [.ref zr, .int a])), (zw, .inr (4, [.ref zs, .ref zc, .int lo, .int sz, .int rm])), (zv, .inr (6, [.ref zs, .int rw])), (zt, .inr (3, [.ref zr, .int pl, .int ln, .int cm])), (zd, .inr (5, [.ref zt, .ref yc, .int la, .int va, .int sy, .int ry])), (ze, .inr (7, [.ref zt, .int lb, .int le]))]) (va_runV (As := [.int x28, .int v29, .int v30, .int v31]) (rest := []) ⟨hx, hb, hml, hown, hts⟩ (c_M_context l hl9 D k Mh pS pK H.size pP pO pB Mth Msz op Mrw bg Mlo cd wd Mrm rg rr Mpl lm nx av sp Mle Mla S K x28 v29 v30 v31 ) (cwV 4 hts (gV mw_499 mw_500 mw_501 mw_331 mw_502) rfl rfl rfl (by decide +kernel) ⟨(Nat.le_of_ble_eq_true rfl), (Nat.le_of_ble_eq_true rfl)⟩) (kRecv (q := (R_Mdl, T_Mdl, 23)) (q0 := 0) (ci := 9) hK hP rfl rfl (kPre (wc := [(Mh, .inr (9, [.ref pP, .ref pO, .int Mth, .int Msz, .ref pB, .ref pS, .ref pK, .int op, .int Mrw, .int bg, .int Mlo, .int cd, .int wd, .int Mrm, .int rg, .int rr, .int Mpl, .int lm, .int nx, .long av, .int sp, .int Mle, .int Mla])), (pS, .inl (k.1, 38, .inl S)), (pK, .inl (k.1, 38, .inl K))]) hE hK hP hD hS hA [0, 4, 5] rfl (by decide))) rfl rfl hl.1 rfl (lv_room (Nat.le_of_ble_eq_true rfl)) d_Law_law_294 ⟨(by show _ ≤ 601024; omega), (by show _ ≤ 7293034; omega)⟩) hP hD hS hA [0, 4, 5] [1, 2, 3, 6, 7, 8, 9, 10, 11, 12, 13, 14, 15, 16, 17, 18, 19, 20, 21] rfl rfl (by decide) (by decide) (fun zz uu H locs hw49 hz50 hP hD hS => ?_)
      obtain ⟨th_45, S_46, K_47⟩ := uu
      have hw49 : th_45 = mxc v29 v30 v31 ∧ S_46 = (if mxc v29 v30 v31 ≤ 0 then upd S (mix x28 v29).toNatClampNeg v30 else S) ∧ K_47 = (if mxc v29 v30 v31 ≤ 0 then upd K (mix x28 v29).toNatClampNeg v31 else K) := hw49
      have hP : va_P D vwCl [(pP, .inl (k.1, 47, .inl tfP)), (pO, .inl (k.1, 47, .inl tfO)), (pB, .inl (k.1, 65536, .inl MB)), (qo, .inl (k.2.1, 1, .inr (.inl fo))), (h0, .inr (8, [.ref zr, .ref zc, .ref yc, .ref zs, .ref zw, .ref zv, .ref zt, .ref zd, .ref ze, .int so, .int sr, .int dr, .int dw])), (zr, .inr (0, [.ref za, .int u])), (za, .inl (k.1, n, .inl f)), (zc, .inr (1, [.ref zf, .ref zg])), (zf, .inl (k.1, 19, .inl sf_32)), (zg, .inl (k.1, 19, .inl lf_33)), (yc, .inr (1, [.ref yf, .ref yg])), (yf, .inl (k.1, 19, .inl tf_34)), (yg, .inl (k.1, 19, .inl mf_35)), (zs, .inr (2, [.ref zr, .int a])), (zw, .inr (4, [.ref zs, .ref zc, .int lo, .int sz, .int rm])), (zv, .inr (6, [.ref zs, .int rw])), (zt, .inr (3, [.ref zr, .int pl, .int ln, .int cm])), (zd, .inr (5, [.ref zt, .ref yc, .int la, .int va, .int sy, .int ry])), (ze, .inr (7, [.ref zt, .int lb, .int le])), (Mh, .inr (9, [.ref pP, .ref pO, .int th_45, .int Msz, .ref pB, .ref pS, .ref pK, .int op, .int Mrw, .int bg, .int Mlo, .int cd, .int wd, .int Mrm, .int rg, .int rr, .int Mpl, .int lm, .int nx, .long av, .int sp, .int Mle, .int Mla])), (pS, .inl (k.1, 38, .inl S_46)), (pK, .inl (k.1, 38, .inl K_47))] H := hP
      have hD : va_D A [(pP, .inl (k.1, 47, .inl tfP)), (pO, .inl (k.1, 47, .inl tfO)), (pB, .inl (k.1, 65536, .inl MB)), (qo, .inl (k.2.1, 1, .inr (.inl fo))), (h0, .inr (8, [.ref zr, .ref zc, .ref yc, .ref zs, .ref zw, .ref zv, .ref zt, .ref zd, .ref ze, .int so, .int sr, .int dr, .int dw])), (zr, .inr (0, [.ref za, .int u])), (za, .inl (k.1, n, .inl f)), (zc, .inr (1, [.ref zf, .ref zg])), (zf, .inl (k.1, 19, .inl sf_32)), (zg, .inl (k.1, 19, .inl lf_33)), (yc, .inr (1, [.ref yf, .ref yg])), (yf, .inl (k.1, 19, .inl tf_34)), (yg, .inl (k.1, 19, .inl mf_35)), (zs, .inr (2, [.ref zr, .int a])), (zw, .inr (4, [.ref zs, .ref zc, .int lo, .int sz, .int rm])), (zv, .inr (6, [.ref zs, .int rw])), (zt, .inr (3, [.ref zr, .int pl, .int ln, .int cm])), (zd, .inr (5, [.ref zt, .ref yc, .int la, .int va, .int sy, .int ry])), (ze, .inr (7, [.ref zt, .int lb, .int le])), (Mh, .inr (9, [.ref pP, .ref pO, .int th_45, .int Msz, .ref pB, .ref pS, .ref pK, .int op, .int Mrw, .int bg, .int Mlo, .int cd, .int wd, .int Mrm, .int rg, .int rr, .int Mpl, .int lm, .int nx, .long av, .int sp, .int Mle, .int Mla])), (pS, .inl (k.1, 38, .inl S_46)), (pK, .inl (k.1, 38, .inl K_47))] := hD
      have hst := st_context hC hw37 hw49
      refine lv_aload_n hx hb d_Law_law_297 rfl (lv_at hl 3 rfl) ?_
      refine kqi (va_runV (As := []) (rest := []) ⟨hx, hb, hml, hown, hts⟩ (c_M_thrown l hl9 D k Mh pP pO pB pS pK th_45 Msz op Mrw bg Mlo cd wd Mrm rg rr Mpl lm nx av sp Mle Mla ) (cwV 0 hts (gV mw_485 mw_486 mw_487 mw_331 mw_488) rfl rfl rfl (by decide +kernel) ⟨(Nat.le_of_ble_eq_true rfl), (Nat.le_of_ble_eq_true rfl)⟩) (kRecv (q := (R_Mdl, T_Mdl, 23)) (q0 := 19) (ci := 9) hK hP rfl rfl (kPreR (wc := [(Mh, .inr (9, [.ref pP, .ref pO, .int th_45, .int Msz, .ref pB, .ref pS, .ref pK, .int op, .int Mrw, .int bg, .int Mlo, .int cd, .int wd, .int Mrm, .int rg, .int rr, .int Mpl, .int lm, .int nx, .long av, .int sp, .int Mle, .int Mla]))]) hE hK hP hS [19] rfl)) rfl rfl hl.1 rfl (lv_room (Nat.le_of_ble_eq_true rfl)) d_Law_law_298 ⟨(by show _ ≤ 601024; omega), (by show _ ≤ 7293034; omega)⟩) hP hS (fun r51 H locs hw hP hS => ?_)
      replace hw := hw.symm
      subst hw
      refine lv_iload hx hb d_Law_law_301 (lv_at hl 0 rfl) ?_
      refine lv_icmp_eq (tgt := 308) hx hb d_Law_law_303 (by decide) (fun c52 => ?_) (fun c52 => ?_)
      · refine lv_goto (tgt := 827) hx hb d_Law_law_308 (by decide) ?_
        exact ih za n f u L sf_32 lf_33 tf_34 mf_35 so sr dr dw a lo sz rm rw pl ln cm la va sy ry lb le th_45 Msz op Mrw bg Mlo cd wd Mrm rg rr Mpl lm nx av sp Mle Mla MB S_46 K_47 fo hst.2 hW (RJ_s hJ) hR hM H _ _ _ ⟨by omega, by omega⟩ (ka_P hP (is := [4, 5, 6, 7, 8, 9, 10, 11, 12, 13, 14, 15, 16, 17, 18, 19, 0, 1, 2, 20, 21, 3]) rfl) (hD.sub [4, 5, 6, 7, 8, 9, 10, 11, 12, 13, 14, 15, 16, 17, 18, 19, 0, 1, 2, 20, 21, 3] (by decide) rfl) hS ls (lv_sub hl [1, 2, 3, 4, 5] rfl)
      · exact absurd hst.1 c52

theorem lw_in {cn Ls : Nat} (hLs : Ls ≤ 2560) (hc : cn ≤ 600) (h : ¬ nI Ls - 5 < nI (5 * cn)) : 5 * cn + 5 ≤ Ls := by
  have e : (nI Ls - 5).toInt = (Ls : Int) - 5 := by
    rw [Int32.toInt_sub, nI_toInt (by omega), show (5 : Int32).toInt = 5 from rfl, Int.bmod_def]
    split <;> omega
  have h1 := Int32.le_iff_toInt_le.mp (Int32.not_lt.mp h)
  rw [e, nI_toInt (by omega)] at h1
  omega
set_option maxHeartbeats 1000000 in
set_option maxRecDepth 100000 in
theorem law_827 (l : Launch) (hl9 : l.stackTraces = false) (D : va_G) (k : gK) {p : Program} {e : Env} {s : State} {m : MethodId} {below : List Frame} {meth : Method} {c : Code} {A : Nat → Prop} {b Ls : Nat} {xs : Nat → Int32} (Cc : Cx p s m #[Value.ref b] meth c b_Law_law 8 ret R_Law meth.name D k A) (hA : ∀ q : Nat, s.heap.size ≤ q → A q) (hX : va_X b Ls xs s s.heap) (hbl : b < s.heap.size) (hbA : ¬ A b) (hLs : Ls ≤ 2560) (h0 zr zc zf zg yc yf yg zs zw zv zt zd ze Mh pP pO pB pS pK qo : Nat) (cn : Nat) (ih : LCont l D k p e s m below meth c A b h0 zr zc zf zg yc yf yg zs zw zv zt zd ze Mh pP pO pB pS pK qo (cn + 1) (nI (5 * (cn + 1))) 23) : LCont l D k p e s m below meth c A b h0 zr zc zf zg yc yf yg zs zw zv zt zd ze Mh pP pO pB pS pK qo (cn + 1) (nI (5 * cn)) 827 := by
  obtain ⟨hx, hb, hml, hr, hlk, hown, hts, hK, hE, hin⟩ := Cc
  intro za n f u L sf lf tf mf so sr dr dw a lo sz rm rw pl ln cm la va sy ry lb le Mth Msz op Mrw bg Mlo cd wd Mrm rg rr Mpl lm nx av sp Mle Mla MB S K fo hC hW hJ hR hM H locs cells slots hrm hP hD hS ls hl
  have hl : lv_has ls 8 [(0, .ref b), (1, .ref h0), (2, .ref Mh), (3, .ref qo), (4, .int (nI (5 * cn)))] := hl
  obtain ⟨x1, ex1⟩ : ∃ y : Int32, y = (nI (5 * cn)) + 5 := ⟨_, rfl⟩
  refine lv_iinc (v := x1) (lv' := [(4, .int x1), (0, .ref b), (1, .ref h0), (2, .ref Mh), (3, .ref qo)]) hx hb d_Law_law_827 hl (k := 4) rfl (by rw [ex1]; rfl) (by decide) rfl (fun ls hl => ?_)
  refine lv_goto (tgt := 23) hx hb d_Law_law_830 (by decide) ?_
  obtain rfl : x1 = nI (5 * (cn + 1)) := by rw [ex1]; exact nI_add (5 * cn) 5
  exact ih za n f u L sf lf tf mf so sr dr dw a lo sz rm rw pl ln cm la va sy ry lb le Mth Msz op Mrw bg Mlo cd wd Mrm rg rr Mpl lm nx av sp Mle Mla MB S K fo hC hW hJ hR hM H locs cells slots hrm hP hD hS ls (lv_sub hl [1, 2, 3, 4, 0] rfl)
set_option maxHeartbeats 1000000 in
set_option maxRecDepth 100000 in
theorem law_step (l : Launch) (hl9 : l.stackTraces = false) (D : va_G) (k : gK) {p : Program} {e : Env} {s : State} {m : MethodId} {below : List Frame} {meth : Method} {c : Code} {A : Nat → Prop} {b Ls : Nat} {xs : Nat → Int32} (Cc : Cx p s m #[Value.ref b] meth c b_Law_law 8 ret R_Law meth.name D k A) (hA : ∀ q : Nat, s.heap.size ≤ q → A q) (hX : va_X b Ls xs s s.heap) (hbl : b < s.heap.size) (hbA : ¬ A b) (hLs : Ls ≤ 2560) (h0 zr zc zf zg yc yf yg zs zw zv zt zd ze Mh pP pO pB pS pK qo : Nat) (hAs : ∀ q : Nat, A q → s.heap.size ≤ q) (cn : Nat) (hcb : cn ≤ 600) (ih : 5 * cn + 5 ≤ Ls → LCont l D k p e s m below meth c A b h0 zr zc zf zg yc yf yg zs zw zv zt zd ze Mh pP pO pB pS pK qo (cn + 1) (nI (5 * (cn + 1))) 23) : LCont l D k p e s m below meth c A b h0 zr zc zf zg yc yf yg zs zw zv zt zd ze Mh pP pO pB pS pK qo cn (nI (5 * cn)) 23 := by
  have Cc9 := Cc
  obtain ⟨hx, hb, hml, hr, hlk, hown, hts, hK, hE, hin⟩ := Cc
  intro za n f u L sf lf tf mf so sr dr dw a lo sz rm rw pl ln cm la va sy ry lb le Mth Msz op Mrw bg Mlo cd wd Mrm rg rr Mpl lm nx av sp Mle Mla MB S K fo hC hW hJ hR hM H locs cells slots hrm hP hD hS ls hl
  have hn := row_le hR
  have hl : lv_has ls 8 [(0, .ref b), (1, .ref h0), (2, .ref Mh), (3, .ref qo), (4, .int (nI (5 * cn)))] := hl
  have hP : va_P D vwCl [(h0, .inr (8, [.ref zr, .ref zc, .ref yc, .ref zs, .ref zw, .ref zv, .ref zt, .ref zd, .ref ze, .int so, .int sr, .int dr, .int dw])), (zr, .inr (0, [.ref za, .int u])), (za, .inl (k.1, n, .inl f)), (zc, .inr (1, [.ref zf, .ref zg])), (zf, .inl (k.1, 19, .inl sf)), (zg, .inl (k.1, 19, .inl lf)), (yc, .inr (1, [.ref yf, .ref yg])), (yf, .inl (k.1, 19, .inl tf)), (yg, .inl (k.1, 19, .inl mf)), (zs, .inr (2, [.ref zr, .int a])), (zw, .inr (4, [.ref zs, .ref zc, .int lo, .int sz, .int rm])), (zv, .inr (6, [.ref zs, .int rw])), (zt, .inr (3, [.ref zr, .int pl, .int ln, .int cm])), (zd, .inr (5, [.ref zt, .ref yc, .int la, .int va, .int sy, .int ry])), (ze, .inr (7, [.ref zt, .int lb, .int le])), (Mh, .inr (9, [.ref pP, .ref pO, .int Mth, .int Msz, .ref pB, .ref pS, .ref pK, .int op, .int Mrw, .int bg, .int Mlo, .int cd, .int wd, .int Mrm, .int rg, .int rr, .int Mpl, .int lm, .int nx, .long av, .int sp, .int Mle, .int Mla])), (pP, .inl (k.1, 47, .inl tfP)), (pO, .inl (k.1, 47, .inl tfO)), (pB, .inl (k.1, 65536, .inl MB)), (pS, .inl (k.1, 38, .inl S)), (pK, .inl (k.1, 38, .inl K)), (qo, .inl (k.2.1, 1, .inr (.inl fo)))] H := hP
  have hD : va_D A [(h0, .inr (8, [.ref zr, .ref zc, .ref yc, .ref zs, .ref zw, .ref zv, .ref zt, .ref zd, .ref ze, .int so, .int sr, .int dr, .int dw])), (zr, .inr (0, [.ref za, .int u])), (za, .inl (k.1, n, .inl f)), (zc, .inr (1, [.ref zf, .ref zg])), (zf, .inl (k.1, 19, .inl sf)), (zg, .inl (k.1, 19, .inl lf)), (yc, .inr (1, [.ref yf, .ref yg])), (yf, .inl (k.1, 19, .inl tf)), (yg, .inl (k.1, 19, .inl mf)), (zs, .inr (2, [.ref zr, .int a])), (zw, .inr (4, [.ref zs, .ref zc, .int lo, .int sz, .int rm])), (zv, .inr (6, [.ref zs, .int rw])), (zt, .inr (3, [.ref zr, .int pl, .int ln, .int cm])), (zd, .inr (5, [.ref zt, .ref yc, .int la, .int va, .int sy, .int ry])), (ze, .inr (7, [.ref zt, .int lb, .int le])), (Mh, .inr (9, [.ref pP, .ref pO, .int Mth, .int Msz, .ref pB, .ref pS, .ref pK, .int op, .int Mrw, .int bg, .int Mlo, .int cd, .int wd, .int Mrm, .int rg, .int rr, .int Mpl, .int lm, .int nx, .long av, .int sp, .int Mle, .int Mla])), (pP, .inl (k.1, 47, .inl tfP)), (pO, .inl (k.1, 47, .inl tfO)), (pB, .inl (k.1, 65536, .inl MB)), (pS, .inl (k.1, 38, .inl S)), (pK, .inl (k.1, 38, .inl K)), (qo, .inl (k.2.1, 1, .inr (.inl fo)))] := hD
  refine lv_iload hx hb d_Law_law_23 (lv_at hl 4 rfl) ?_
  refine lv_aload_n hx hb d_Law_law_25 rfl (lv_at hl 0 rfl) ?_
  refine va_slen hx hb hX hbl hbA hS d_Law_law_26 ?_
  refine lv_topi (fun xl1 exl1 => ?_)
  have exl1 : xl1 = nI Ls := exl1
  subst exl1
  refine lv_iconst (v := 5) hx hb d_Law_law_27 (by decide) ?_
  refine lv_isub hx hb d_Law_law_28 ?_
  refine lv_icmp_gt (tgt := 833) hx hb d_Law_law_29 (by decide) (fun c2 => ?_) (fun c2 => ?_)
  · refine lv_iconst (v := 1) hx hb d_Law_law_833 (by decide) ?_
    refine va_forget (fun q hq => hAs _ (hS.2.2 q hq)) ?_
    refine W.widen (k := 601024) (n := 7293034) (by omega) (by omega) ?_
    exact lw_ret hx hb hr hlk d_Law_law_834
  · have h5 : 5 * cn + 5 ≤ Ls := lw_in hLs hcb c2
    have hv0 : vp_in (nI (5 * cn)) Ls := vp_in_nI (by omega) (by omega)
    have h827 := law_827 l hl9 D k Cc9 hA hX hbl hbA hLs h0 zr zc zf zg yc yf yg zs zw zv zt zd ze Mh pP pO pB pS pK qo cn (ih h5)
    refine lv_aload_n hx hb d_Law_law_32 rfl (lv_at hl 0 rfl) ?_
    refine lv_iload hx hb d_Law_law_33 (lv_at hl 4 rfl) ?_
    refine va_sld hx hb hX hbl hbA hS hv0 d_Law_law_35 ?_
    refine lv_topi (fun v3 ev3 => ?_)
    refine lv_bipush (v := 15) hx hb d_Law_law_36 (by decide) ?_
    refine lv_iand hx hb d_Law_law_38 ?_
    by_cases c4 : (v3 &&& 15) = 0
    · refine lv_tableIn (tgt := 100) hx hb d_Law_law_39 (by rw [c4]; decide) (by rw [c4]; decide) (by rw [c4]; rfl) (by decide) ?_
      exact lc_100 l hl9 D k Cc9 hA hX hbl hbA hLs h0 zr zc zf zg yc yf yg zs zw zv zt zd ze Mh pP pO pB pS pK qo cn _ rfl h5 h827 za n f u L sf lf tf mf so sr dr dw a lo sz rm rw pl ln cm la va sy ry lb le Mth Msz op Mrw bg Mlo cd wd Mrm rg rr Mpl lm nx av sp Mle Mla MB S K fo hC hW hJ hR hM H locs cells slots hrm hP hD hS ls hl
    by_cases c5 : (v3 &&& 15) = 1
    · refine lv_tableIn (tgt := 111) hx hb d_Law_law_39 (by rw [c5]; decide) (by rw [c5]; decide) (by rw [c5]; rfl) (by decide) ?_
      exact lc_111 l hl9 D k Cc9 hA hX hbl hbA hLs h0 zr zc zf zg yc yf yg zs zw zv zt zd ze Mh pP pO pB pS pK qo cn _ rfl h5 h827 za n f u L sf lf tf mf so sr dr dw a lo sz rm rw pl ln cm la va sy ry lb le Mth Msz op Mrw bg Mlo cd wd Mrm rg rr Mpl lm nx av sp Mle Mla MB S K fo hC hW hJ hR hM H locs cells slots hrm hP hD hS ls hl
    by_cases c6 : (v3 &&& 15) = 2
    · refine lv_tableIn (tgt := 167) hx hb d_Law_law_39 (by rw [c6]; decide) (by rw [c6]; decide) (by rw [c6]; rfl) (by decide) ?_
      exact lc_167 l hl9 D k Cc9 hA hX hbl hbA hLs h0 zr zc zf zg yc yf yg zs zw zv zt zd ze Mh pP pO pB pS pK qo cn _ rfl h5 h827 za n f u L sf lf tf mf so sr dr dw a lo sz rm rw pl ln cm la va sy ry lb le Mth Msz op Mrw bg Mlo cd wd Mrm rg rr Mpl lm nx av sp Mle Mla MB S K fo hC hW hJ hR hM H locs cells slots hrm hP hD hS ls hl
    by_cases c7 : (v3 &&& 15) = 3
    · refine lv_tableIn (tgt := 223) hx hb d_Law_law_39 (by rw [c7]; decide) (by rw [c7]; decide) (by rw [c7]; rfl) (by decide) ?_
      exact lc_223 l hl9 D k Cc9 hA hX hbl hbA hLs h0 zr zc zf zg yc yf yg zs zw zv zt zd ze Mh pP pO pB pS pK qo cn _ rfl h5 h827 za n f u L sf lf tf mf so sr dr dw a lo sz rm rw pl ln cm la va sy ry lb le Mth Msz op Mrw bg Mlo cd wd Mrm rg rr Mpl lm nx av sp Mle Mla MB S K fo hC hW hJ hR hM H locs cells slots hrm hP hD hS ls hl
    by_cases c8 : (v3 &&& 15) = 4
    · refine lv_tableIn (tgt := 311) hx hb d_Law_law_39 (by rw [c8]; decide) (by rw [c8]; decide) (by rw [c8]; rfl) (by decide) ?_
      exact lc_311 l hl9 D k Cc9 hA hX hbl hbA hLs h0 zr zc zf zg yc yf yg zs zw zv zt zd ze Mh pP pO pB pS pK qo cn _ rfl h5 h827 za n f u L sf lf tf mf so sr dr dw a lo sz rm rw pl ln cm la va sy ry lb le Mth Msz op Mrw bg Mlo cd wd Mrm rg rr Mpl lm nx av sp Mle Mla MB S K fo hC hW hJ hR hM H locs cells slots hrm hP hD hS ls hl
    by_cases c9 : (v3 &&& 15) = 5
    · refine lv_tableIn (tgt := 395) hx hb d_Law_law_39 (by rw [c9]; decide) (by rw [c9]; decide) (by rw [c9]; rfl) (by decide) ?_
      exact lc_395 l hl9 D k Cc9 hA hX hbl hbA hLs h0 zr zc zf zg yc yf yg zs zw zv zt zd ze Mh pP pO pB pS pK qo cn _ rfl h5 h827 za n f u L sf lf tf mf so sr dr dw a lo sz rm rw pl ln cm la va sy ry lb le Mth Msz op Mrw bg Mlo cd wd Mrm rg rr Mpl lm nx av sp Mle Mla MB S K fo hC hW hJ hR hM H locs cells slots hrm hP hD hS ls hl
    by_cases c10 : (v3 &&& 15) = 6
    · refine lv_tableIn (tgt := 447) hx hb d_Law_law_39 (by rw [c10]; decide) (by rw [c10]; decide) (by rw [c10]; rfl) (by decide) ?_
      exact lc_447 l hl9 D k Cc9 hA hX hbl hbA hLs h0 zr zc zf zg yc yf yg zs zw zv zt zd ze Mh pP pO pB pS pK qo cn _ rfl h5 h827 za n f u L sf lf tf mf so sr dr dw a lo sz rm rw pl ln cm la va sy ry lb le Mth Msz op Mrw bg Mlo cd wd Mrm rg rr Mpl lm nx av sp Mle Mla MB S K fo hC hW hJ hR hM H locs cells slots hrm hP hD hS ls hl
    by_cases c11 : (v3 &&& 15) = 7
    · refine lv_tableIn (tgt := 559) hx hb d_Law_law_39 (by rw [c11]; decide) (by rw [c11]; decide) (by rw [c11]; rfl) (by decide) ?_
      exact lc_559 l hl9 D k Cc9 hA hX hbl hbA hLs h0 zr zc zf zg yc yf yg zs zw zv zt zd ze Mh pP pO pB pS pK qo cn _ rfl h5 h827 za n f u L sf lf tf mf so sr dr dw a lo sz rm rw pl ln cm la va sy ry lb le Mth Msz op Mrw bg Mlo cd wd Mrm rg rr Mpl lm nx av sp Mle Mla MB S K fo hC hW hJ hR hM H locs cells slots hrm hP hD hS ls hl
    by_cases c12 : (v3 &&& 15) = 8
    · refine lv_tableIn (tgt := 603) hx hb d_Law_law_39 (by rw [c12]; decide) (by rw [c12]; decide) (by rw [c12]; rfl) (by decide) ?_
      exact lc_603 l hl9 D k Cc9 hA hX hbl hbA hLs h0 zr zc zf zg yc yf yg zs zw zv zt zd ze Mh pP pO pB pS pK qo cn _ rfl h5 h827 za n f u L sf lf tf mf so sr dr dw a lo sz rm rw pl ln cm la va sy ry lb le Mth Msz op Mrw bg Mlo cd wd Mrm rg rr Mpl lm nx av sp Mle Mla MB S K fo hC hW hJ hR hM H locs cells slots hrm hP hD hS ls hl
    by_cases c13 : (v3 &&& 15) = 9
    · refine lv_tableIn (tgt := 659) hx hb d_Law_law_39 (by rw [c13]; decide) (by rw [c13]; decide) (by rw [c13]; rfl) (by decide) ?_
      exact lc_659 l hl9 D k Cc9 hA hX hbl hbA hLs h0 zr zc zf zg yc yf yg zs zw zv zt zd ze Mh pP pO pB pS pK qo cn _ rfl h5 h827 za n f u L sf lf tf mf so sr dr dw a lo sz rm rw pl ln cm la va sy ry lb le Mth Msz op Mrw bg Mlo cd wd Mrm rg rr Mpl lm nx av sp Mle Mla MB S K fo hC hW hJ hR hM H locs cells slots hrm hP hD hS ls hl
    by_cases c14 : (v3 &&& 15) = 10
    · refine lv_tableIn (tgt := 735) hx hb d_Law_law_39 (by rw [c14]; decide) (by rw [c14]; decide) (by rw [c14]; rfl) (by decide) ?_
      exact lc_735 l hl9 D k Cc9 hA hX hbl hbA hLs h0 zr zc zf zg yc yf yg zs zw zv zt zd ze Mh pP pO pB pS pK qo cn _ rfl h5 h827 za n f u L sf lf tf mf so sr dr dw a lo sz rm rw pl ln cm la va sy ry lb le Mth Msz op Mrw bg Mlo cd wd Mrm rg rr Mpl lm nx av sp Mle Mla MB S K fo hC hW hJ hR hM H locs cells slots hrm hP hD hS ls hl
    by_cases c15 : (v3 &&& 15) = 11
    · refine lv_tableIn (tgt := 802) hx hb d_Law_law_39 (by rw [c15]; decide) (by rw [c15]; decide) (by rw [c15]; rfl) (by decide) ?_
      exact lc_802 l hl9 D k Cc9 hA hX hbl hbA hLs h0 zr zc zf zg yc yf yg zs zw zv zt zd ze Mh pP pO pB pS pK qo cn _ rfl h5 h827 za n f u L sf lf tf mf so sr dr dw a lo sz rm rw pl ln cm la va sy ry lb le Mth Msz op Mrw bg Mlo cd wd Mrm rg rr Mpl lm nx av sp Mle Mla MB S K fo hC hW hJ hR hM H locs cells slots hrm hP hD hS ls hl
    refine lv_tableOut (tgt := 827) hx hb d_Law_law_39 (by have n0 := lv_neT (a := 0) c4 rfl; have n1 := lv_neT (a := 1) c5 rfl; have n2 := lv_neT (a := 2) c6 rfl; have n3 := lv_neT (a := 3) c7 rfl; have n4 := lv_neT (a := 4) c8 rfl; have n5 := lv_neT (a := 5) c9 rfl; have n6 := lv_neT (a := 6) c10 rfl; have n7 := lv_neT (a := 7) c11 rfl; have n8 := lv_neT (a := 8) c12 rfl; have n9 := lv_neT (a := 9) c13 rfl; have n10 := lv_neT (a := 10) c14 rfl; have n11 := lv_neT (a := 11) c15 rfl; omega) (by decide) ?_
    exact h827 za n f u L sf lf tf mf so sr dr dw a lo sz rm rw pl ln cm la va sy ry lb le Mth Msz op Mrw bg Mlo cd wd Mrm rg rr Mpl lm nx av sp Mle Mla MB S K fo (CJ_s hC) hW (RJ_s hJ) hR hM H locs cells slots ⟨by omega, by omega⟩ hP hD hS ls hl
set_option maxHeartbeats 1000000 in
set_option maxRecDepth 100000 in
theorem law_loop (l : Launch) (hl9 : l.stackTraces = false) (D : va_G) (k : gK) {p : Program} {e : Env} {s : State} {m : MethodId} {below : List Frame} {meth : Method} {c : Code} {A : Nat → Prop} {b Ls : Nat} {xs : Nat → Int32} (Cc : Cx p s m #[Value.ref b] meth c b_Law_law 8 ret R_Law meth.name D k A) (hA : ∀ q : Nat, s.heap.size ≤ q → A q) (hX : va_X b Ls xs s s.heap) (hbl : b < s.heap.size) (hbA : ¬ A b) (hLs : Ls ≤ 2560) (h0 zr zc zf zg yc yf yg zs zw zv zt zd ze Mh pP pO pB pS pK qo : Nat) (hAs : ∀ q : Nat, A q → s.heap.size ≤ q) : ∀ t cn : Nat, cn + t = 513 → LCont l D k p e s m below meth c A b h0 zr zc zf zg yc yf yg zs zw zv zt zd ze Mh pP pO pB pS pK qo cn (nI (5 * cn)) 23 := by
  intro t
  induction t with
  | zero => intro cn hc; exact law_step l hl9 D k Cc hA hX hbl hbA hLs h0 zr zc zf zg yc yf yg zs zw zv zt zd ze Mh pP pO pB pS pK qo hAs cn (by omega) (fun h => absurd h (by omega))
  | succ t ih => intro cn hc; exact law_step l hl9 D k Cc hA hX hbl hbA hLs h0 zr zc zf zg yc yf yg zs zw zv zt zd ze Mh pP pO pB pS pK qo hAs cn (by omega) (fun _ => ih (cn + 1) (by omega))

/-! the two states, held together -/
def LBd (c : Nat) (so : Int32) (n : Nat) : Prop := n ≤ 192 * c ∧ (so = 0 → n ≤ 65193 + (c - 338)) ∧ (¬ so = 0 → n ≤ 65192 + (c - 338))
theorem LBd_mk {c n : Nat} {so : Int32} (h1 : n ≤ 192 * c) (h2 : so = 0 → n ≤ 65193 + (c - 338)) (h3 : ¬ so = 0 → n ≤ 65192 + (c - 338)) : LBd c so n := ⟨h1, h2, h3⟩
theorem LBd_1 {c n : Nat} {so : Int32} (h : LBd c so n) : n ≤ 192 * c := h.1
theorem LBd_2 {c n : Nat} {so : Int32} (h : LBd c so n) (q : so = 0) : n ≤ 65193 + (c - 338) := h.2.1 q
theorem LBd_3 {c n : Nat} {so : Int32} (h : LBd c so n) (q : ¬ so = 0) : n ≤ 65192 + (c - 338) := h.2.2 q
theorem LBd_s {c n : Nat} {so : Int32} (h : LBd c so n) : LBd (c + 1) so n :=
  LBd_mk (Nat.le_trans (LBd_1 h) (Nat.mul_le_mul_left 192 (Nat.le_succ c))) (fun q => Nat.le_trans (LBd_2 h q) (Nat.add_le_add_left (Nat.sub_le_sub_right (Nat.le_succ c) 338) 65193)) (fun q => Nat.le_trans (LBd_3 h q) (Nat.add_le_add_left (Nat.sub_le_sub_right (Nat.le_succ c) 338) 65192))
def CJ (c : Nat) (so dr op rg bg : Int32) (sf lf tf mf S K : Nat → Int32) (L : List Int32) : Prop := op = so ∧ (so = 0 ∨ so = 1) ∧ rg = dr ∧ (dr = 0 ∨ dr = 1) ∧ crl sf lf tf mf S K ∧ sok S ∧ bok L ∧ (¬ bg < 0) ∧ LBd c so L.length ∧ (¬ dr = 0 → so = 0)
def WJ (so dr sr a lo sz rm rw Mrw bg Mlo cd wd Mrm : Int32) (L : List Int32) : Prop := ¬ so = 0 → Mrw = sr ∧ a = bg ∧ ∃ a0 : Nat, bg = nI a0 ∧ WR a0 sr lo sz rm rw Mlo cd wd Mrm L
def RJ (T : Nat) (dr dw pl ln cm la va sy ry lb le rr Mpl lm nx : Int32) (av : Int64) (sp Mle Mla : Int32) (L : List Int32) : Prop := ¬ dr = 0 → rr = dw ∧ Mpl = pl ∧ lm = ln ∧ rdok pl ln L ∧ RR T dw ln la va sy ry cm lb le sp av Mle Mla nx
theorem RRR_m {S T : Nat} {ln lb le cm Mle Mla nx : Int32} (h : RRR T ln lb le cm Mle Mla nx) (hs : S ≤ T) : RRR S ln lb le cm Mle Mla nx := by
  obtain ⟨r, b, j, l, g1, g2, g3, g4, g5, g6, g7, g8, g9, f1, f2, f3⟩ := h
  exact ⟨r, b, j, l, g1, g2, g3, g4, g5, g6, g7, g8, g9, f1, by omega, f3⟩
theorem RR_m {S T : Nat} {dw ln la va sy ry cm lb le sp : Int32} {av : Int64} {Mle Mla nx : Int32} (h : RR T dw ln la va sy ry cm lb le sp av Mle Mla nx) (hs : S ≤ T) : RR S dw ln la va sy ry cm lb le sp av Mle Mla nx :=
  ⟨fun q => ⟨CRR_m (h.1 q).1 hs, (h.1 q).2⟩, fun q => RRR_m (h.2 q) hs⟩
theorem CJ_s {c : Nat} {L : List Int32} {sf lf tf mf S K : Nat → Int32} {so dr op bg rg : Int32} (hC : CJ c so dr op rg bg sf lf tf mf S K L) : CJ (c + 1) so dr op rg bg sf lf tf mf S K L := by
  obtain ⟨h1, h2, h3, h4, h5, h6, h7, h8, h9, h10⟩ := hC
  exact ⟨h1, h2, h3, h4, h5, h6, h7, h8, LBd_s h9, h10⟩
theorem RJ_s {c : Nat} {L : List Int32} {av : Int64} {dr dw pl ln cm la va sy ry lb le rr Mpl lm nx sp Mle Mla : Int32} (hJ : RJ (960 * (1000 - c)) dr dw pl ln cm la va sy ry lb le rr Mpl lm nx av sp Mle Mla L) : RJ (960 * (1000 - (c + 1))) dr dw pl ln cm la va sy ry lb le rr Mpl lm nx av sp Mle Mla L := fun q => by
  obtain ⟨h1, h2, h3, h4, h5⟩ := hJ q
  exact ⟨h1, h2, h3, h4, RR_m h5 (by omega)⟩
theorem st_put {c n : Nat} {L : List Int32} {sf lf tf mf S K : Nat → Int32} {av : Int64} {so sr dr dw u a lo sz rm rw pl ln cm la va sy ry lb le op Msz Mrw bg Mlo cd wd Mrm rg rr Mpl lm nx sp Mle Mla : Int32} {n2 : Nat} {b r rM th2 : Int32} {L2 L3 : List Int32} {fo fo2 : Nat → Int64} (hC : CJ c so dr op rg bg sf lf tf mf S K L) (hW : WJ so dr sr a lo sz rm rw Mrw bg Mlo cd wd Mrm L) (hJ : RJ (960 * (1000 - c)) dr dw pl ln cm la va sy ry lb le rr Mpl lm nx av sp Mle Mla L) (hu : u = nI L.length) (hz : Msz = nI L.length) (hlen : L.length ≤ 65536)
    (hw1 : r = pue b so u ∧ (pue b so u = 0 → n2 = apn n L ∧ L2 = app L b ∧ fo2 0 = (nI L2.length).toInt64) ∧ (¬ pue b so u = 0 → n2 = n ∧ L2 = L ∧ fo2 = fo))
    (hw2 : rM = (if mpc b op Msz ≤ 0 then nI (L ++ [b]).length else 0) ∧ th2 = mpc b op Msz ∧ L3 = (if mpc b op Msz ≤ 0 then L ++ [b] else L)) :
    th2 = r ∧ (r = 0 → fo2 0 = rM.toInt64) ∧ L3 = L2 ∧ (CJ (c + 1) so dr op rg bg sf lf tf mf S K L2) ∧ (WJ so dr sr a lo sz rm rw Mrw bg Mlo cd wd Mrm L2) ∧ (RJ (960 * (1000 - (c + 1))) dr dw pl ln cm la va sy ry lb le rr Mpl lm nx av sp Mle Mla L2) := by
  obtain ⟨h1, h2, h3, h4, h5, h6, h7, h8, h9, h10⟩ := hC
  subst h1
  subst hu
  subst hz
  have e := pue_mpc (b := b) (so := op) (rfl : nI L.length = nI L.length) hlen
  obtain ⟨a1, a2, a3⟩ := hw1
  obtain ⟨b1, b2, b3⟩ := hw2
  by_cases c0 : pue b op (nI L.length) = 0
  · obtain ⟨g1, g2, g3⟩ := a2 c0
    have c1 : mpc b op (nI L.length) ≤ 0 := by rw [← e, c0]; decide
    rw [if_pos c1] at b1 b3
    obtain ⟨k1, k2, k3⟩ := pue_0 c0
    have hl : L.length < 65536 := (nI_ltI (b := 65536) (by omega) (by decide)).mp k3
    have e2 : app L b = L ++ [b] := by rw [app, if_pos hl]
    have e3 : L3 = L2 := by rw [b3, g2, e2]
    have e4 : L2 = L ++ [b] := by rw [g2, e2]
    have e5 : L2.length = L.length + 1 := by rw [e4]; exact len_app1
    refine ⟨by rw [b2, a1, e], fun _ => by rw [g3, b1, e4], e3, ⟨rfl, h2, h3, h4, h5, h6, by rw [e4]; exact bok_app h7 k1, h8, ?_, h10⟩, fun q => absurd k2 q, fun q => ?_⟩
    · rw [e5]
      have := LBd_1 h9
      have := LBd_2 h9 k2
      exact LBd_mk (by omega) (fun _ => by omega) (fun q => absurd k2 q)
    · obtain ⟨f1, f2, f3, ⟨pp, ll, f4, f5, f6, f7⟩, f8⟩ := hJ q
      exact ⟨f1, f2, f3, ⟨pp, ll, f4, f5, by omega, by omega⟩, RR_m f8 (by omega)⟩
  · obtain ⟨g1, g2, g3⟩ := a3 c0
    have c1 : ¬ mpc b op (nI L.length) ≤ 0 := fun q => c0 (by rw [e]; exact mth_z.mp q)
    rw [if_neg c1] at b1 b3
    subst g2
    subst b3
    exact ⟨by rw [b2, a1, e], fun q => absurd (a1.symm.trans q) c0, rfl, CJ_s ⟨rfl, h2, h3, h4, h5, h6, h7, h8, h9, h10⟩, hW, RJ_s hJ⟩
theorem st_at {L : List Int32} {u Msz x r rM th2 : Int32} {fo fo2 : Nat → Int64} (hu : u = nI L.length) (hz : Msz = nI L.length) (hlen : L.length ≤ 65536)
    (hw1 : r = ate x u ∧ (ate x u = 0 → fo2 0 = (ats L x u).toInt64) ∧ (¬ ate x u = 0 → fo2 = fo))
    (hw2 : rM = (if mac x Msz ≤ 0 then (if x < 0 then Msz else rb L x) else 0) ∧ th2 = mac x Msz) : th2 = r ∧ (r = 0 → fo2 0 = rM.toInt64) := by
  subst hz
  obtain ⟨e, hx⟩ := ate_mac (x := x) hu hlen
  subst hu
  obtain ⟨a1, a2, a3⟩ := hw1
  obtain ⟨b1, b2⟩ := hw2
  refine ⟨by rw [b2, a1, e], fun q => ?_⟩
  have c0 : ate x (nI L.length) = 0 := a1.symm.trans q
  rw [a2 c0, b1, if_pos (show mac x (nI L.length) ≤ 0 by rw [← e, c0]; decide), ats]
  by_cases c1 : x = -1
  · rw [if_pos c1, if_pos ((hx c0).mpr c1)]
  · rw [if_neg c1, if_neg (fun z => c1 ((hx c0).mp z))]
theorem crl_u0 {sf lf tf mf S K : Nat → Int32} {q : Nat} (z v : Int32) (h : crl sf lf tf mf S K) (hq : q < 19) : crl (upd sf q z) (upd lf q v) tf mf (upd S q z) (upd K q v) := by
  intro j hj
  obtain ⟨g1, g2, g3, g4⟩ := h j hj
  unfold upd
  by_cases e : j = q
  · subst e; rw [if_pos rfl, if_pos rfl, if_pos rfl, if_pos rfl, if_neg (by omega), if_neg (by omega)]; exact ⟨rfl, rfl, g3, g4⟩
  · rw [if_neg e, if_neg e, if_neg e, if_neg e, if_neg (by omega), if_neg (by omega)]; exact ⟨g1, g2, g3, g4⟩
theorem crl_u1 {sf lf tf mf S K : Nat → Int32} {q : Nat} (z v : Int32) (h : crl sf lf tf mf S K) (hq : q < 19) : crl sf lf (upd tf q z) (upd mf q v) (upd S (19 + q) z) (upd K (19 + q) v) := by
  intro j hj
  obtain ⟨g1, g2, g3, g4⟩ := h j hj
  unfold upd
  by_cases e : j = q
  · subst e; rw [if_pos rfl, if_pos rfl, if_pos rfl, if_pos rfl, if_neg (by omega), if_neg (by omega)]; exact ⟨g1, g2, rfl, rfl⟩
  · rw [if_neg e, if_neg e, if_neg (show ¬ 19 + j = 19 + q by omega), if_neg (show ¬ 19 + j = 19 + q by omega), if_neg (by omega), if_neg (by omega)]; exact ⟨g1, g2, g3, g4⟩
theorem mix_c {x : Int32} {q : Nat} (hq : q < 19) : (mix x (nI q)).toNatClampNeg = if x = 0 then q else 19 + q := by
  unfold mix
  by_cases c : x = 0
  · rw [if_pos c, if_pos c, nI_clamp (by omega)]
  · rw [if_neg c, if_neg c, show (19 : Int32) + nI q = nI (19 + q) from nI_add 19 q, nI_clamp (by omega)]
theorem st_context {c : Nat} {L : List Int32} {sf lf tf mf S K : Nat → Int32} {so dr op bg rg : Int32} {x y z v r th2 : Int32} {sf2 lf2 tf2 mf2 S2 K2 : Nat → Int32} (hC : CJ c so dr op rg bg sf lf tf mf S K L)
    (hw1 : r = cte y z v ∧ (cte y z v = 0 → sf2 = (if x = 0 then (cset sf lf y z v).1 else sf) ∧ lf2 = (if x = 0 then (cset sf lf y z v).2 else lf) ∧ tf2 = (if x = 0 then tf else (cset tf mf y z v).1) ∧ mf2 = (if x = 0 then mf else (cset tf mf y z v).2)) ∧ (¬ cte y z v = 0 → sf2 = sf ∧ lf2 = lf ∧ tf2 = tf ∧ mf2 = mf))
    (hw2 : th2 = mxc y z v ∧ S2 = (if mxc y z v ≤ 0 then upd S (mix x y).toNatClampNeg z else S) ∧ K2 = (if mxc y z v ≤ 0 then upd K (mix x y).toNatClampNeg v else K)) :
    th2 = r ∧ (CJ (c + 1) so dr op rg bg sf2 lf2 tf2 mf2 S2 K2 L) := by
  obtain ⟨h1, h2, h3, h4, h5, h6, h7, h8, h9, h10⟩ := hC
  have e := cte_mxc y z v
  obtain ⟨a1, a2, a3⟩ := hw1
  obtain ⟨b1, b2, b3⟩ := hw2
  refine ⟨by rw [b1, a1, e], ?_⟩
  by_cases c0 : cte y z v = 0
  · obtain ⟨g1, g2, g3, g4⟩ := a2 c0
    have c1 : mxc y z v ≤ 0 := by rw [← e, c0]; decide
    rw [if_pos c1] at b2 b3
    obtain ⟨k1, k2, k3⟩ := cte_0 c0
    obtain ⟨q, hq, rfl⟩ := mot_ctx k1
    have hv : vp_in z 47 := ix_in (by decide) k2 (Int32.not_le.mpr k3)
    rw [mix_c hq] at b2 b3
    rw [cset_n _ _ _ _ hq] at g1 g2
    rw [cset_n _ _ _ _ hq] at g3 g4
    by_cases cx : x = 0
    · rw [if_pos cx] at g1 g2 g3 g4 b2 b3
      subst g1; subst g2; subst g3; subst g4; subst b2; subst b3
      exact ⟨h1, h2, h3, h4, crl_u0 _ _ h5 hq, sok_upd h6 hv, h7, h8, LBd_s h9, h10⟩
    · rw [if_neg cx] at g1 g2 g3 g4 b2 b3
      subst g1; subst g2; subst g3; subst g4; subst b2; subst b3
      exact ⟨h1, h2, h3, h4, crl_u1 _ _ h5 hq, sok_upd h6 hv, h7, h8, LBd_s h9, h10⟩
  · obtain ⟨g1, g2, g3, g4⟩ := a3 c0
    have c1 : ¬ mxc y z v ≤ 0 := fun q => c0 (by rw [e]; exact mth_z.mp q)
    rw [if_neg c1] at b2 b3
    subst g1; subst g2; subst g3; subst g4; subst b2; subst b3
    exact ⟨h1, h2, h3, h4, h5, h6, h7, h8, LBd_s h9, h10⟩
theorem st_state {c : Nat} {L : List Int32} {sf lf tf mf S K : Nat → Int32} {so dr op bg rg : Int32} {x y r rM th2 : Int32} {fo fo2 : Nat → Int64} (hC : CJ c so dr op rg bg sf lf tf mf S K L)
    (hw1 : r = ste y ∧ (ste y = 0 → fo2 0 = (2 * ent 19 (if x = 0 then sf else tf) y + ent 19 (if x = 0 then lf else mf) y).toInt64) ∧ (¬ ste y = 0 → fo2 = fo))
    (hw2 : rM = (if msc y ≤ 0 then 2 * S (mix x y).toNatClampNeg + K (mix x y).toNatClampNeg else 0) ∧ th2 = msc y) : th2 = r ∧ (r = 0 → fo2 0 = rM.toInt64) := by
  obtain ⟨h1, h2, h3, h4, h5, h6, h7, h8, h9, h10⟩ := hC
  have e := ste_msc y
  obtain ⟨a1, a2, a3⟩ := hw1
  obtain ⟨b1, b2⟩ := hw2
  refine ⟨by rw [b2, a1, e], fun q => ?_⟩
  have c0 : ste y = 0 := a1.symm.trans q
  rw [a2 c0, b1, if_pos (show msc y ≤ 0 by rw [← e, c0]; decide)]
  obtain ⟨q, hq, rfl⟩ := mot_ctx (x := y) (by
    rcases isc_mot y with ⟨k1, k2⟩ | ⟨k1, k2⟩
    · rw [ste, if_pos k1] at c0; exact absurd c0 (by decide)
    · exact k2)
  obtain ⟨g1, g2, g3, g4⟩ := h5 q hq
  rw [mix_c hq, ent_n _ hq (by decide), ent_n _ hq (by decide)]
  by_cases cx : x = 0
  · rw [if_pos cx, if_pos cx, if_pos cx, g1, g2]
  · rw [if_neg cx, if_neg cx, if_neg cx, g3, g4]
theorem st_open {c : Nat} {L : List Int32} {sf lf tf mf S K : Nat → Int32} {av : Int64} {so sr dr dw u a lo sz rm rw pl ln cm la va sy ry lb le op Msz Mrw bg Mlo cd wd Mrm rg rr Mpl lm nx sp Mle Mla : Int32} {x r th2 lo2 sz2 rm2 rw2 so2 sr2 dr2 a2 op2 rg2 Mrw2 bg2 Mlo2 cd2 wd2 Mrm2 : Int32} (hC : CJ c so dr op rg bg sf lf tf mf S K L) (hW : WJ so dr sr a lo sz rm rw Mrw bg Mlo cd wd Mrm L) (hJ : RJ (960 * (1000 - c)) dr dw pl ln cm la va sy ry lb le rr Mpl lm nx av sp Mle Mla L) (hu : u = nI L.length) (hz : Msz = nI L.length) (hlen : L.length ≤ 65536) (hx : x = 0 ∨ x = 1)
    (hw1 : r = ope so ∧ (ope so = 0 → lo2 = (if x = 0 then 0 else lo) ∧ sz2 = (if x = 0 then 32768 else sz) ∧ rm2 = (if x = 0 then 12 else rm) ∧ rw2 = (if x = 0 then rw else 0) ∧ so2 = 1 ∧ sr2 = x ∧ dr2 = 0 ∧ a2 = u) ∧ (¬ ope so = 0 → lo2 = lo ∧ sz2 = sz ∧ rm2 = rm ∧ rw2 = rw ∧ so2 = so ∧ sr2 = sr ∧ dr2 = dr ∧ a2 = a))
    (hw2 : th2 = mth op 0 0 ∧ op2 = (if mth op 0 0 ≤ 0 then 1 else op) ∧ rg2 = (if mth op 0 0 ≤ 0 then 0 else rg) ∧ Mrw2 = (if mth op 0 0 ≤ 0 then x else Mrw) ∧ bg2 = (if mth op 0 0 ≤ 0 then Msz else bg) ∧ Mlo2 = (if mth op 0 0 ≤ 0 then 0 else Mlo) ∧ cd2 = (if mth op 0 0 ≤ 0 then 0 else cd) ∧ wd2 = (if mth op 0 0 ≤ 0 then 32768 else wd) ∧ Mrm2 = (if mth op 0 0 ≤ 0 then (if x = 0 then 12 else 0) else Mrm)) :
    th2 = r ∧ (CJ (c + 1) so2 dr2 op2 rg2 bg2 sf lf tf mf S K L) ∧ (WJ so2 dr2 sr2 a2 lo2 sz2 rm2 rw2 Mrw2 bg2 Mlo2 cd2 wd2 Mrm2 L) ∧ (RJ (960 * (1000 - (c + 1))) dr2 dw pl ln cm la va sy ry lb le rr Mpl lm nx av sp Mle Mla L) := by
  obtain ⟨h1, h2, h3, h4, h5, h6, h7, h8, h9, h10⟩ := hC
  subst h1
  subst hu
  subst hz
  have e := ope_mth h2
  obtain ⟨a1, a2', a3⟩ := hw1
  obtain ⟨b1, b2, b3, b4, b5, b6, b7, b8, b9⟩ := hw2
  refine ⟨by rw [b1, a1, e], ?_⟩
  by_cases c0 : op = 0
  · have k0 : ope op = 0 := by rw [c0]; decide
    have k1 : mth op 0 0 ≤ 0 := by rw [c0]; decide
    rw [if_pos k1] at b2 b3 b4 b5 b6 b7 b8 b9
    obtain ⟨g1, g2, g3, g4, g5, g6, g7, g8⟩ := a2' k0
    have ha := LBd_1 h9
    have hb := LBd_2 h9 c0
    refine ⟨⟨by rw [b2, g5], by rw [g5]; exact Or.inr rfl, by rw [b3, g7], by rw [g7]; exact Or.inl rfl, h5, h6, h7, by rw [b5]; exact nI_pos (by omega), by rw [g5]; exact LBd_mk (by omega) (fun q => absurd q (by decide)) (fun _ => by omega), fun q => absurd g7 q⟩, fun _ => ⟨by rw [b4, g6], by rw [g8, b5], L.length, b5, ?_⟩, fun q => absurd g7 q⟩
    rw [g6]
    refine ⟨fun q => ?_, fun q => ?_⟩
    · rw [if_pos q] at g1 g2 g3 b9
      refine ⟨0, 32768, 12, g1, g2, g3, b8, b9, ⟨by decide, by decide, by decide, Nat.le_refl _, h7⟩, by decide, by decide, ?_, ?_⟩
      · rw [b7, mkc_lt (by decide) (by decide)]
      · rw [b6, b7, mcy_0]; rfl
    · rw [if_neg q] at g4 b9
      exact ⟨0, g4, b9, by omega, Nat.le_refl _, h7, Or.inl rfl⟩
  · have k0 : ¬ ope op = 0 := by
      rcases h2 with q | q
      · exact absurd q c0
      · rw [q]; decide
    have k1 : ¬ mth op 0 0 ≤ 0 := by
      rcases h2 with q | q
      · exact absurd q c0
      · rw [q]; decide
    rw [if_neg k1] at b2 b3 b4 b5 b6 b7 b8 b9
    obtain ⟨g1, g2, g3, g4, g5, g6, g7, g8⟩ := a3 k0
    subst g1; subst g2; subst g3; subst g4; subst g5; subst g6; subst g7; subst g8; subst b2; subst b3; subst b4; subst b5; subst b6; subst b7; subst b8; subst b9
    exact ⟨CJ_s ⟨rfl, h2, h3, h4, h5, h6, h7, h8, h9, h10⟩, hW, RJ_s hJ⟩
theorem st_write {c n : Nat} {L : List Int32} {sf lf tf mf S K : Nat → Int32} {av : Int64} {so sr dr dw u a lo sz rm rw pl ln cm la va sy ry lb le op Msz Mrw bg Mlo cd wd Mrm rg rr Mpl lm nx sp Mle Mla : Int32} {n2 : Nat} {x nn r rM th2 lo2 sz2 rm2 rw2 Mlo2 cd2 wd2 Mrm2 : Int32} {w : Int64} {sf2 lf2 S2 K2 : Nat → Int32} {L2 L3 : List Int32} {fo fo2 : Nat → Int64} (hC : CJ c so dr op rg bg sf lf tf mf S K L) (hW : WJ so dr sr a lo sz rm rw Mrw bg Mlo cd wd Mrm L) (hJ : RJ (960 * (1000 - c)) dr dw pl ln cm la va sy ry lb le rr Mpl lm nx av sp Mle Mla L) (hu : u = nI L.length) (hz : Msz = nI L.length) (hlen : L.length ≤ 65536)
    (hw1 : r = wre so sr x nn u ∧ (wre so sr x nn u = 0 → lo2 = (wlp nn.toNatClampNeg sr a x w lo sz rm rw sf lf n L).1 ∧ sz2 = (wlp nn.toNatClampNeg sr a x w lo sz rm rw sf lf n L).2.1 ∧ rm2 = (wlp nn.toNatClampNeg sr a x w lo sz rm rw sf lf n L).2.2.1 ∧ rw2 = (wlp nn.toNatClampNeg sr a x w lo sz rm rw sf lf n L).2.2.2.1 ∧ sf2 = (wlp nn.toNatClampNeg sr a x w lo sz rm rw sf lf n L).2.2.2.2.1 ∧ lf2 = (wlp nn.toNatClampNeg sr a x w lo sz rm rw sf lf n L).2.2.2.2.2.1 ∧ n2 = (wlp nn.toNatClampNeg sr a x w lo sz rm rw sf lf n L).2.2.2.2.2.2.1 ∧ L2 = (wlp nn.toNatClampNeg sr a x w lo sz rm rw sf lf n L).2.2.2.2.2.2.2 ∧ fo2 0 = (nI L2.length - a).toInt64) ∧ (¬ wre so sr x nn u = 0 → lo2 = lo ∧ sz2 = sz ∧ rm2 = rm ∧ rw2 = rw ∧ sf2 = sf ∧ lf2 = lf ∧ n2 = n ∧ L2 = L ∧ fo2 = fo))
    (hw2 : rM = (if mwx op Mrw x nn Msz ≤ 0 then nI L3.length - bg else 0) ∧ th2 = mwx op Mrw x nn Msz ∧ Mlo2 = (mwt op Mrw x nn Msz bg w Mlo cd wd Mrm S K L).1 ∧ cd2 = (mwt op Mrw x nn Msz bg w Mlo cd wd Mrm S K L).2.1 ∧ wd2 = (mwt op Mrw x nn Msz bg w Mlo cd wd Mrm S K L).2.2.1 ∧ Mrm2 = (mwt op Mrw x nn Msz bg w Mlo cd wd Mrm S K L).2.2.2.1 ∧ S2 = (mwt op Mrw x nn Msz bg w Mlo cd wd Mrm S K L).2.2.2.2.1 ∧ K2 = (mwt op Mrw x nn Msz bg w Mlo cd wd Mrm S K L).2.2.2.2.2.1 ∧ L3 = (mwt op Mrw x nn Msz bg w Mlo cd wd Mrm S K L).2.2.2.2.2.2) :
    th2 = r ∧ (r = 0 → fo2 0 = rM.toInt64) ∧ L3 = L2 ∧ (CJ (c + 1) so dr op rg bg sf2 lf2 tf mf S2 K2 L2) ∧ (WJ so dr sr a lo2 sz2 rm2 rw2 Mrw bg Mlo2 cd2 wd2 Mrm2 L2) ∧ (RJ (960 * (1000 - (c + 1))) dr dw pl ln cm la va sy ry lb le rr Mpl lm nx av sp Mle Mla L2) := by
  obtain ⟨h1, h2, h3, h4, h5, h6, h7, h8, h9, h10⟩ := hC
  subst h1
  subst hu
  subst hz
  have e : wre op sr x nn (nI L.length) = mwx op Mrw x nn (nI L.length) := wre_mwx (fun q => (hW q).1)
  obtain ⟨a1, a2', a3⟩ := hw1
  obtain ⟨b1, b2, b3, b4, b5, b6, b7, b8, b9⟩ := hw2
  rw [mwt] at b3 b4 b5 b6 b7 b8 b9
  by_cases c0 : wre op sr x nn (nI L.length) = 0
  · have c1 : mwx op Mrw x nn (nI L.length) ≤ 0 := by rw [← e, c0]; decide
    rw [if_pos c1] at b1 b3 b4 b5 b6 b7 b8 b9
    obtain ⟨g1, g2, g3, g4, g5, g6, g7, g8, g9⟩ := a2' c0
    obtain ⟨k1, k2, k3, k4, k5⟩ := wre_0 c0
    obtain ⟨w1, w2, a0, w3, w4⟩ := hW k1
    have hl : L.length ≤ 65000 := (nI_leI (b := 65000) (by omega) (by decide)).mp k5
    have ht : nn.toNatClampNeg ≤ 64 := nn_64 k4
    subst w1
    subst w2
    subst w3
    obtain ⟨p1, p2, p3, p4, p5⟩ := wlp_mwq nn.toNatClampNeg a0 n Mrw x w lo sz rm rw Mlo cd wd Mrm sf lf tf mf S K L ht w4 h5 h6 k2 (by omega)
    rw [← g1, ← g2, ← g3, ← g4, ← b3, ← b4, ← b5, ← b6, ← b9] at p1
    rw [← g8, ← b9] at p2
    rw [← g5, ← g6, ← b7, ← b8] at p3
    rw [← b7] at p4
    rw [← b9] at p5
    have e3 : L3 = L2 := p2.symm
    subst e3
    have ha := LBd_1 h9
    have hb := LBd_3 h9 k1
    have hbk : bok L3 := by
      by_cases z : Mrw = 0
      · obtain ⟨_, _, _, _, _, _, _, _, ⟨_, _, _, _, q⟩, _⟩ := p1.1 z
        exact q
      · obtain ⟨_, _, _, _, _, q, _⟩ := p1.2 z
        exact q
    refine ⟨by rw [b2, a1, e], fun _ => by rw [g9, b1], rfl, ⟨rfl, h2, h3, h4, p3, p4, hbk, h8, LBd_mk (by omega) (fun q => absurd q k1) (fun _ => by omega), h10⟩, fun _ => ⟨rfl, rfl, a0, rfl, p1⟩, fun q => absurd (h10 q) k1⟩
  · have c1 : ¬ mwx op Mrw x nn (nI L.length) ≤ 0 := fun q => c0 (by rw [e]; exact mth_z.mp q)
    rw [if_neg c1] at b1 b3 b4 b5 b6 b7 b8 b9
    obtain ⟨g1, g2, g3, g4, g5, g6, g7, g8, g9⟩ := a3 c0
    dsimp only at b3 b4 b5 b6 b7 b8 b9
    subst g1; subst g2; subst g3; subst g4; subst g5; subst g6; subst g8; subst b3; subst b4; subst b5; subst b6; subst b7; subst b8; subst b9
    exact ⟨by rw [b2, a1, e], fun q => absurd (a1.symm.trans q) c0, rfl, CJ_s ⟨rfl, h2, h3, h4, h5, h6, h7, h8, h9, h10⟩, hW, RJ_s hJ⟩
theorem st_enough {c : Nat} {L : List Int32} {sf lf tf mf S K : Nat → Int32} {so sr dr u a lo sz rm rw op Msz Mrw bg Mlo cd wd Mrm rg : Int32} {r rM th2 : Int32} {fo fo2 : Nat → Int64} (hC : CJ c so dr op rg bg sf lf tf mf S K L) (hW : WJ so dr sr a lo sz rm rw Mrw bg Mlo cd wd Mrm L) (hu : u = nI L.length) (hz : Msz = nI L.length) (hlen : L.length ≤ 65536)
    (hw1 : r = ene so ∧ (ene so = 0 → fo2 0 = ((if sr = 0 then u - a + 5 else u - a)).toInt64) ∧ (¬ ene so = 0 → fo2 = fo))
    (hw2 : rM = (if mth (if op = 0 then 1 else 0) 0 0 ≤ 0 then Msz - bg + (if Mrw = 0 then 5 else 0) else 0) ∧ th2 = mth (if op = 0 then 1 else 0) 0 0) : th2 = r ∧ (r = 0 → fo2 0 = rM.toInt64) := by
  obtain ⟨h1, h2, h3, h4, h5, h6, h7, h8, h9, h10⟩ := hC
  subst h1
  subst hu
  subst hz
  have e := ene_mth (so := op)
  obtain ⟨a1, a2, a3⟩ := hw1
  obtain ⟨b1, b2⟩ := hw2
  refine ⟨by rw [b2, a1, e], fun q => ?_⟩
  have c0 : ene op = 0 := a1.symm.trans q
  rw [a2 c0, b1, if_pos (show mth (if op = 0 then 1 else 0) 0 0 ≤ 0 by rw [← e, c0]; decide)]
  have k1 : ¬ op = 0 := fun z => by rw [ene, if_pos z] at c0; exact absurd c0 (by decide)
  obtain ⟨w1, w2, -⟩ := hW k1
  rw [w1, w2]
  by_cases z : sr = 0
  · rw [if_pos z, if_pos z]
  · rw [if_neg z, if_neg z, Int32.add_zero]
theorem st_close {c n : Nat} {L : List Int32} {sf lf tf mf S K : Nat → Int32} {av : Int64} {so sr dr dw u a lo sz rm rw pl ln cm la va sy ry lb le op Msz Mrw bg Mlo cd wd Mrm rg rr Mpl lm nx sp Mle Mla : Int32} {n2 : Nat} {y r rM th2 lo2 rm2 rw2 so2 op2 Mlo2 cd2 Mrm2 : Int32} {L2 L3 : List Int32} {fo fo2 : Nat → Int64} (hC : CJ c so dr op rg bg sf lf tf mf S K L) (hW : WJ so dr sr a lo sz rm rw Mrw bg Mlo cd wd Mrm L) (hJ : RJ (960 * (1000 - c)) dr dw pl ln cm la va sy ry lb le rr Mpl lm nx av sp Mle Mla L) (hu : u = nI L.length) (hz : Msz = nI L.length) (hlen : L.length ≤ 65536) (hc : c < 512)
    (hw1 : r = cle so y ∧ (cle so y = 0 → lo2 = (cl0 sr a lo sz rm rw n L y).1 ∧ rm2 = (cl0 sr a lo sz rm rw n L y).2.1 ∧ rw2 = (cl0 sr a lo sz rm rw n L y).2.2.1 ∧ n2 = (cl0 sr a lo sz rm rw n L y).2.2.2.1 ∧ L2 = (cl0 sr a lo sz rm rw n L y).2.2.2.2 ∧ so2 = 0 ∧ fo2 0 = (nI L2.length - a).toInt64) ∧ (¬ cle so y = 0 → lo2 = lo ∧ rm2 = rm ∧ rw2 = rw ∧ n2 = n ∧ L2 = L ∧ so2 = so ∧ fo2 = fo))
    (hw2 : th2 = mcx op y ∧ (mcx op y ≤ 0 → rM = nI L3.length - bg ∧ op2 = 0 ∧ Mlo2 = (mcb Mrw bg Mlo cd wd Mrm L y).1 ∧ cd2 = (mcb Mrw bg Mlo cd wd Mrm L y).2.1 ∧ Mrm2 = (mcb Mrw bg Mlo cd wd Mrm L y).2.2.1 ∧ L3 = mcD (mcb Mrw bg Mlo cd wd Mrm L y).2.2.2 bg) ∧ (¬ mcx op y ≤ 0 → rM = 0 ∧ op2 = op ∧ Mlo2 = Mlo ∧ cd2 = cd ∧ Mrm2 = Mrm ∧ L3 = L)) :
    th2 = r ∧ (r = 0 → fo2 0 = rM.toInt64) ∧ L3 = L2 ∧ (CJ (c + 1) so2 dr op2 rg bg sf lf tf mf S K L2) ∧ (WJ so2 dr sr a lo2 sz rm2 rw2 Mrw bg Mlo2 cd2 wd Mrm2 L2) ∧ (RJ (960 * (1000 - (c + 1))) dr dw pl ln cm la va sy ry lb le rr Mpl lm nx av sp Mle Mla L2) := by
  obtain ⟨h1, h2, h3, h4, h5, h6, h7, h8, h9, h10⟩ := hC
  subst h1
  have e := cle_mcx op y
  obtain ⟨a1, a2', a3⟩ := hw1
  obtain ⟨b1, b2, b3⟩ := hw2
  by_cases c0 : cle op y = 0
  · have c1 : mcx op y ≤ 0 := by rw [← e, c0]; decide
    obtain ⟨g1, g2, g3, g4, g5, g6, g7⟩ := a2' c0
    obtain ⟨f1, f2, f3, f4, f5, f6⟩ := b2 c1
    have k1 := cle_0 c0
    obtain ⟨w1, w2, a0, w3, w4⟩ := hW k1
    have ha := LBd_1 h9
    have hb := LBd_3 h9 k1
    subst w1
    subst w2
    subst w3
    obtain ⟨p1, p2, p3, p4⟩ := cl0_mcb (y := y) (n := n) w4 (by omega)
    rw [← g5, ← f6] at p1
    rw [← f6] at p2 p3 p4
    have e3 : L3 = L2 := p1.symm
    subst e3
    exact ⟨by rw [b1, a1, e], fun _ => by rw [g7, f1], rfl, ⟨by rw [f2, g6], by rw [g6]; exact Or.inl rfl, h3, h4, h5, h6, p2, h8, by rw [g6]; exact LBd_mk (by omega) (fun _ => by omega) (fun q => absurd rfl q), fun _ => g6⟩, fun q => absurd g6 q, fun q => absurd (h10 q) k1⟩
  · have c1 : ¬ mcx op y ≤ 0 := fun q => c0 (by rw [e]; exact mth_z.mp q)
    obtain ⟨g1, g2, g3, g4, g5, g6, g7⟩ := a3 c0
    obtain ⟨f1, f2, f3, f4, f5, f6⟩ := b3 c1
    subst g1; subst g2; subst g3; subst g5; subst g6; subst f2; subst f3; subst f4; subst f5; subst f6
    exact ⟨by rw [b1, a1, e], fun q => absurd (a1.symm.trans q) c0, rfl, CJ_s ⟨rfl, h2, h3, h4, h5, h6, h7, h8, h9, h10⟩, hW, RJ_s hJ⟩
theorem st_read {c : Nat} {L : List Int32} {sf lf tf mf S K : Nat → Int32} {av : Int64} {so sr dr dw u a lo sz rm rw pl ln cm la va sy ry lb le op Msz Mrw bg Mlo cd wd Mrm rg rr Mpl lm nx sp Mle Mla : Int32} {x y v r th2 cm2 la2 va2 sy2 ry2 lb2 le2 dr2 dw2 pl2 ln2 rg2 rr2 Mpl2 lm2 nx2 sp2 Mle2 Mla2 : Int32} {av2 : Int64} {MB : Nat → Int32} (hC : CJ c so dr op rg bg sf lf tf mf S K L) (hW : WJ so dr sr a lo sz rm rw Mrw bg Mlo cd wd Mrm L) (hJ : RJ (960 * (1000 - c)) dr dw pl ln cm la va sy ry lb le rr Mpl lm nx av sp Mle Mla L) (hu : u = nI L.length) (hM : row_ok 65536 MB Msz L) (hc : c < 512)
    (hw1 : r = rde so y v u ∧ (rde so y v u = 0 → cm2 = (if x = 0 then (rbg L y v 0).2.2.2 else 0) ∧ la2 = (if x = 0 then (rbg L y v 0).1 else la) ∧ va2 = (if x = 0 then (rbg L y v 0).2.1 else va) ∧ sy2 = (if x = 0 then 32768 else sy) ∧ ry2 = (if x = 0 then (rbg L y v 0).2.2.1 else ry) ∧ lb2 = (if x = 0 then lb else 0) ∧ le2 = (if x = 0 then le else 0) ∧ dr2 = 1 ∧ dw2 = x ∧ pl2 = y ∧ ln2 = v) ∧ (¬ rde so y v u = 0 → cm2 = cm ∧ la2 = la ∧ va2 = va ∧ sy2 = sy ∧ ry2 = ry ∧ lb2 = lb ∧ le2 = le ∧ dr2 = dr ∧ dw2 = dw ∧ pl2 = pl ∧ ln2 = ln))
    (hw2 : th2 = mrx op y v Msz ∧ (mrx op y v Msz ≤ 0 → rg2 = 1 ∧ rr2 = x ∧ Mpl2 = y ∧ lm2 = v ∧ nx2 = (if x = 0 then (mrv L y v).2.2.2 else 0) ∧ av2 = (if x = 0 then mra L y v else av) ∧ sp2 = (if x = 0 then 32768 else sp) ∧ Mle2 = (if x = 0 then (mrv L y v).2.1 - 7 else 0) ∧ Mla2 = (if x = 0 then (mrv L y v).2.2.1 else 0)) ∧ (¬ mrx op y v Msz ≤ 0 → rg2 = rg ∧ rr2 = rr ∧ Mpl2 = Mpl ∧ lm2 = lm ∧ nx2 = nx ∧ av2 = av ∧ sp2 = sp ∧ Mle2 = Mle ∧ Mla2 = Mla)) :
    th2 = r ∧ (CJ (c + 1) so dr2 op rg2 bg sf lf tf mf S K L) ∧ (WJ so dr2 sr a lo sz rm rw Mrw bg Mlo cd wd Mrm L) ∧ (RJ (960 * (1000 - (c + 1))) dr2 dw2 pl2 ln2 cm2 la2 va2 sy2 ry2 lb2 le2 rr2 Mpl2 lm2 nx2 av2 sp2 Mle2 Mla2 L) := by
  obtain ⟨h1, h2, h3, h4, h5, h6, h7, h8, h9, h10⟩ := hC
  subst h1
  have hz : u = Msz := by rw [hu, hM.1]
  subst hz
  have e := rde_mrx (so := op) (y := y) (v := v) (u := u)
  obtain ⟨a1, a2', a3⟩ := hw1
  obtain ⟨b1, b2, b3⟩ := hw2
  refine ⟨by rw [b1, a1, e], ?_⟩
  by_cases c0 : rde op y v u = 0
  · have c1 : mrx op y v u ≤ 0 := by rw [← e, c0]; decide
    obtain ⟨g1, g2, g3, g4, g5, g6, g7, g8, g9, g10, g11⟩ := a2' c0
    obtain ⟨f1, f2, f3, f4, f5, f6, f7, f8, f9⟩ := b2 c1
    obtain ⟨k1, k2, k3, k4, k5⟩ := rde_0 c0
    have hrd : rdok y v L := rd_mk hM k2 k4 k3 k5
    refine ⟨⟨rfl, h2, by rw [f1, g8], by rw [g8]; exact Or.inr rfl, h5, h6, h7, h8, LBd_s h9, fun _ => k1⟩, fun q => absurd k1 q, fun _ => ⟨by rw [f2, g9], by rw [f3, g10], by rw [f4, g11], by rw [g10, g11]; exact hrd, ?_⟩⟩
    obtain ⟨pp, ll, d1, d2, d3, d4⟩ := hrd
    subst d2
    rw [g9, g11]
    refine ⟨fun q => ?_, fun q => ?_⟩
    · rw [if_pos q] at g1 g2 g3 g4 g5 f5 f6 f7 f8 f9
      have hh := rbg_mrv (T := 960 * (1000 - (c + 1))) (L := L) (y := y) (l := ll) h7 (by omega) (by omega)
      rw [g1, g2, g3, g4, g5, f5, f6, f7, f8, f9]
      exact ⟨hh, 32768, rfl, by decide, by decide⟩
    · rw [if_neg q] at g1 g6 g7 f5 f8 f9
      exact ⟨0, 0, 0, ll, g7, f8, by omega, g6, f9, by omega, f5, rfl, by omega, by rw [g1, show min 0 ll = 0 by omega]; rfl, by omega, fun _ => by omega⟩
  · have c1 : ¬ mrx op y v u ≤ 0 := fun q => c0 (by rw [e]; exact mth_z.mp q)
    obtain ⟨g1, g2, g3, g4, g5, g6, g7, g8, g9, g10, g11⟩ := a3 c0
    obtain ⟨f1, f2, f3, f4, f5, f6, f7, f8, f9⟩ := b3 c1
    subst g1; subst g2; subst g3; subst g4; subst g5; subst g6; subst g7; subst g8; subst g9; subst g10; subst g11; subst f1; subst f2; subst f3; subst f4; subst f5; subst f6; subst f7; subst f8; subst f9
    exact ⟨CJ_s ⟨rfl, h2, h3, h4, h5, h6, h7, h8, h9, h10⟩, hW, RJ_s hJ⟩
theorem st_bits {c : Nat} {L : List Int32} {sf lf tf mf S K : Nat → Int32} {av : Int64} {so sr dr dw a lo sz rm rw pl ln cm la va sy ry lb le op Mrw bg Mlo cd wd Mrm rg rr Mpl lm nx sp Mle Mla : Int32} {x nn r th2 la2 va2 sy2 ry2 cm2 lb2 le2 sp2 Mle2 Mla2 nx2 : Int32} {rM av2 : Int64} {tf2 mf2 S2 K2 : Nat → Int32} {fo fo2 : Nat → Int64} (hC : CJ c so dr op rg bg sf lf tf mf S K L) (hW : WJ so dr sr a lo sz rm rw Mrw bg Mlo cd wd Mrm L) (hJ : RJ (960 * (1000 - c)) dr dw pl ln cm la va sy ry lb le rr Mpl lm nx av sp Mle Mla L) (hc : c < 512)
    (hw1 : r = bte dr dw x nn ∧ (bte dr dw x nn = 0 → la2 = (blp nn.toNatClampNeg dw L pl ln x 0 la va sy ry cm tf mf lb le).2.1 ∧ va2 = (blp nn.toNatClampNeg dw L pl ln x 0 la va sy ry cm tf mf lb le).2.2.1 ∧ sy2 = (blp nn.toNatClampNeg dw L pl ln x 0 la va sy ry cm tf mf lb le).2.2.2.1 ∧ ry2 = (blp nn.toNatClampNeg dw L pl ln x 0 la va sy ry cm tf mf lb le).2.2.2.2.1 ∧ cm2 = (blp nn.toNatClampNeg dw L pl ln x 0 la va sy ry cm tf mf lb le).2.2.2.2.2.1 ∧ tf2 = (blp nn.toNatClampNeg dw L pl ln x 0 la va sy ry cm tf mf lb le).2.2.2.2.2.2.1 ∧ mf2 = (blp nn.toNatClampNeg dw L pl ln x 0 la va sy ry cm tf mf lb le).2.2.2.2.2.2.2.1 ∧ lb2 = (blp nn.toNatClampNeg dw L pl ln x 0 la va sy ry cm tf mf lb le).2.2.2.2.2.2.2.2.1 ∧ le2 = (blp nn.toNatClampNeg dw L pl ln x 0 la va sy ry cm tf mf lb le).2.2.2.2.2.2.2.2.2 ∧ fo2 0 = (blp nn.toNatClampNeg dw L pl ln x 0 la va sy ry cm tf mf lb le).1) ∧ (¬ bte dr dw x nn = 0 → la2 = la ∧ va2 = va ∧ sy2 = sy ∧ ry2 = ry ∧ cm2 = cm ∧ tf2 = tf ∧ mf2 = mf ∧ lb2 = lb ∧ le2 = le ∧ fo2 = fo))
    (hw2 : th2 = mbx rg rr x nn ∧ rM = (mbt rg rr x nn L Mpl lm sp av Mle Mla nx S K).1 ∧ sp2 = (mbt rg rr x nn L Mpl lm sp av Mle Mla nx S K).2.1 ∧ av2 = (mbt rg rr x nn L Mpl lm sp av Mle Mla nx S K).2.2.1 ∧ Mle2 = (mbt rg rr x nn L Mpl lm sp av Mle Mla nx S K).2.2.2.1 ∧ Mla2 = (mbt rg rr x nn L Mpl lm sp av Mle Mla nx S K).2.2.2.2.1 ∧ nx2 = (mbt rg rr x nn L Mpl lm sp av Mle Mla nx S K).2.2.2.2.2.1 ∧ S2 = (mbt rg rr x nn L Mpl lm sp av Mle Mla nx S K).2.2.2.2.2.2.1 ∧ K2 = (mbt rg rr x nn L Mpl lm sp av Mle Mla nx S K).2.2.2.2.2.2.2) :
    th2 = r ∧ (r = 0 → fo2 0 = rM) ∧ (CJ (c + 1) so dr op rg bg sf lf tf2 mf2 S2 K2 L) ∧ (RJ (960 * (1000 - (c + 1))) dr dw pl ln cm2 la2 va2 sy2 ry2 lb2 le2 rr Mpl lm nx2 av2 sp2 Mle2 Mla2 L) := by
  obtain ⟨h1, h2, h3, h4, h5, h6, h7, h8, h9, h10⟩ := hC
  subst h3
  have e : bte rg dw x nn = mbx rg rr x nn := bte_mbx (fun q => (hJ q).1)
  obtain ⟨a1, a2', a3⟩ := hw1
  obtain ⟨b1, b2, b3, b4, b5, b6, b7, b8, b9⟩ := hw2
  rw [mbt] at b2 b3 b4 b5 b6 b7 b8 b9
  by_cases c0 : bte rg dw x nn = 0
  · have c1 : mbx rg rr x nn ≤ 0 := by rw [← e, c0]; decide
    rw [if_pos c1] at b2 b3 b4 b5 b6 b7 b8 b9
    obtain ⟨g1, g2, g3, g4, g5, g6, g7, g8, g9, g10⟩ := a2' c0
    obtain ⟨k1, k2, k3, k4⟩ := bte_0 c0
    have ht : nn.toNatClampNeg ≤ 64 := nn_64 k4
    obtain ⟨f1, f2, f3, f4, f5⟩ := hJ k1
    subst f1
    subst f2
    subst f3
    obtain ⟨p1, p2, p3, p4⟩ := blp_mbq nn.toNatClampNeg (960 * (1000 - (c + 1))) rr x Mpl lm L 0 la va sy ry cm lb le sp av Mle Mla nx sf lf tf mf S K h7 (RR_m f5 (by omega)) h5 h6 k2
    rw [← g1, ← g2, ← g3, ← g4, ← g5, ← g8, ← g9, ← b3, ← b4, ← b5, ← b6, ← b7] at p2
    rw [← g6, ← g7, ← b8, ← b9] at p3
    rw [← b8] at p4
    exact ⟨by rw [b1, a1, e], fun _ => by rw [g10, b2, p1], ⟨h1, h2, rfl, h4, p3, p4, h7, h8, LBd_s h9, h10⟩, fun _ => ⟨rfl, rfl, rfl, f4, p2⟩⟩
  · have c1 : ¬ mbx rg rr x nn ≤ 0 := fun q => c0 (by rw [e]; exact mth_z.mp q)
    rw [if_neg c1] at b2 b3 b4 b5 b6 b7 b8 b9
    dsimp only at b2 b3 b4 b5 b6 b7 b8 b9
    obtain ⟨g1, g2, g3, g4, g5, g6, g7, g8, g9, g10⟩ := a3 c0
    subst g1; subst g2; subst g3; subst g4; subst g5; subst g6; subst g7; subst g8; subst g9; subst b3; subst b4; subst b5; subst b6; subst b7; subst b8; subst b9
    exact ⟨by rw [b1, a1, e], fun q => absurd (a1.symm.trans q) c0, CJ_s ⟨h1, h2, rfl, h4, h5, h6, h7, h8, h9, h10⟩, RJ_s hJ⟩
theorem x_012 {x : Int32} (h1 : ¬ x < 0) (h2 : ¬ (2 : Int32) < x) : x = 0 ∨ x = 1 ∨ x = 2 := by
  obtain ⟨j, hj, rfl⟩ := nI_of2 (M := 2) (n := 2) rfl h1 (Int32.not_lt.mp h2)
  rcases (show j = 0 ∨ j = 1 ∨ j = 2 by omega) with rfl | rfl | rfl
  · exact Or.inl rfl
  · exact Or.inr (Or.inl rfl)
  · exact Or.inr (Or.inr rfl)
theorem st_register {c : Nat} {L : List Int32} {sf lf tf mf S K : Nat → Int32} {av : Int64} {so sr dr dw a lo sz rm rw pl ln cm la va sy ry lb le op Mrw bg Mlo cd wd Mrm rg rr Mpl lm nx sp Mle Mla : Int32} {x : Int32} (hC : CJ c so dr op rg bg sf lf tf mf S K L) (hW : WJ so dr sr a lo sz rm rw Mrw bg Mlo cd wd Mrm L) (hJ : RJ (960 * (1000 - c)) dr dw pl ln cm la va sy ry lb le rr Mpl lm nx av sp Mle Mla L) : rgs x so sr dr dw lo sz rm rw cm sy = mrg x op Mrw rg rr Mlo cd wd Mrm nx lm sp := by
  obtain ⟨h1, h2, h3, h4, h5, h6, h7, h8, h9, h10⟩ := hC
  subst h1
  subst h3
  have hcm : ¬ rg = 0 → cm = (if lm ≤ nx then lm else nx) := fun q => by
    obtain ⟨f1, f2, f3, f4, f5⟩ := hJ q
    subst f3
    have hk : ∃ j l : Nat, nx = nI j ∧ lm = nI l ∧ l ≤ 65536 ∧ cm = nI (min j l) ∧ j < 2 ^ 31 := by
      by_cases z : dw = 0
      · obtain ⟨s, v, r, b, j, l, _, _, _, _, _, _, _, _, _, _, _, _, q4, q5, q6, q7, q8⟩ := (f5.1 z).1
        exact ⟨j, l, q4, q5, q6, q7, by omega⟩
      · obtain ⟨r, b, j, l, _, _, _, _, _, _, q4, q5, q6, q7, q8, _⟩ := f5.2 z
        exact ⟨j, l, q4, q5, q6, q7, by omega⟩
    obtain ⟨j, l, e1, e2, e3, e4, e5⟩ := hk
    rw [e4, e1, e2]
    rcases Nat.lt_or_ge j l with z | z
    · rw [if_neg (nI_ge z (by omega)), Nat.min_eq_left (by omega)]
    · rw [if_pos (nI_le z e5), Nat.min_eq_right z]
  have hsy : ¬ rg = 0 → dw = 0 → sy = sp := fun q z => by
    obtain ⟨f1, f2, f3, f4, f5⟩ := hJ q
    obtain ⟨s, v, r, b, j, l, q1, q2, _⟩ := (f5.1 z).1
    rw [q1, q2]
  have hrr : ¬ rg = 0 → rr = dw := fun q => (hJ q).1
  have h2r : mrg.mrg2 x rg rr nx lm sp = (if x = 3 then (if rg = 0 then -1 else cm) else if x = 4 then (if rg = 0 then -1 else if dw = 0 then sy else -1) else -1) := by
    unfold mrg.mrg2
    by_cases z : rg = 0
    · rw [if_pos z, if_pos z, if_pos z]
      repeat' split
      all_goals rfl
    · rw [if_neg z, if_neg z, if_neg z, ← hcm z, hrr z]
      by_cases z3 : x = 3
      · rw [if_pos z3, if_pos z3]
      · rw [if_neg z3, if_neg z3]
        by_cases z4 : x = 4
        · rw [if_pos z4, if_pos z4]
          by_cases zd : dw = 0
          · rw [if_pos zd, if_pos zd, hsy z zd]
          · rw [if_neg zd, if_neg zd]
        · rw [if_neg z4, if_neg z4]
  unfold mrg
  by_cases c0 : op = 0
  · rw [if_pos c0, h2r, rgs, if_pos c0, if_pos c0, if_pos c0]
    by_cases x0 : x = 0
    · subst x0; rw [if_pos rfl, if_neg (by decide), if_neg (by decide)]
    · rw [if_neg x0]
      by_cases x1 : x = 1
      · subst x1; rw [if_pos rfl, if_neg (by decide), if_neg (by decide)]
      · rw [if_neg x1]
        by_cases x2 : x = 2
        · subst x2; rw [if_pos rfl, if_neg (by decide), if_neg (by decide)]
        · rw [if_neg x2]
  · have hrg : rg = 0 := by
      rcases h4 with q | q
      · exact q
      · exact absurd (h10 (by rw [q]; decide)) c0
    obtain ⟨w1, w2, a0, w3, w4⟩ := hW c0
    subst w1
    have hm2 : mrg.mrg2 x rg rr nx lm sp = -1 := by unfold mrg.mrg2; rw [if_pos hrg]
    rw [if_neg c0, hm2, rgs, if_neg c0, if_neg c0, if_neg c0, if_pos hrg, if_pos hrg]
    have k0 : Mrw = 0 → lo = Mlo + mcy cd Mrm ∧ sz = wd ∧ rm = Mrm := fun q => by
      obtain ⟨xx, s, r, q1, q2, q3, q4, q5, q6, q7, q8, q9, q10⟩ := w4.1 q
      subst q5
      rw [q10, q1, q2, q3, q4, Int32.sub_add_cancel]
      exact ⟨rfl, rfl, rfl⟩
    have k1 : ¬ Mrw = 0 → rw = Mrm := fun q => by
      obtain ⟨r, q1, q2, _⟩ := w4.2 q
      rw [q1, q2]
    by_cases x0 : x = 0
    · subst x0
      rw [if_pos rfl, if_neg (show ¬ (0 : Int32) < 0 by decide), if_neg (show ¬ (2 : Int32) < 0 by decide), if_neg (show ¬ (0 : Int32) = 2 by decide), if_pos (show (0 : Int32) = 0 from rfl)]
      by_cases q : Mrw = 0
      · rw [if_pos q, if_pos q]; exact (k0 q).1
      · rw [if_neg q, if_neg q]
    · rw [if_neg x0]
      by_cases x1 : x = 1
      · subst x1
        rw [if_pos rfl, if_neg (show ¬ (1 : Int32) < 0 by decide), if_neg (show ¬ (2 : Int32) < 1 by decide), if_neg (show ¬ (1 : Int32) = 2 by decide), if_neg (show ¬ (1 : Int32) = 0 by decide)]
        by_cases q : Mrw = 0
        · rw [if_pos q, if_pos q]; exact (k0 q).2.1
        · rw [if_neg q, if_neg q]
      · rw [if_neg x1]
        by_cases x2 : x = 2
        · subst x2
          rw [if_pos rfl, if_neg (by decide), if_neg (by decide), if_pos rfl, rmo]
          by_cases q : Mrw = 0
          · rw [if_pos q]; exact (k0 q).2.2
          · rw [if_neg q]; exact k1 q
        · rw [if_neg x2]
          have hout : (if x < 0 then (-1 : Int32) else if 2 < x then -1 else if x = 2 then Mrm else if Mrw = 0 then (if x = 0 then Mlo + mcy cd Mrm else wd) else -1) = -1 := by
            by_cases y1 : x < 0
            · rw [if_pos y1]
            · rw [if_neg y1]
              by_cases y2 : (2 : Int32) < x
              · rw [if_pos y2]
              · rcases x_012 y1 y2 with q | q | q
                · exact absurd q x0
                · exact absurd q x1
                · exact absurd q x2
          rw [hout]
          repeat' split
          all_goals rfl
theorem st_clear {c : Nat} {L : List Int32} {sf lf tf mf S K : Nat → Int32} {av : Int64} {so sr dr dw a lo sz rm rw pl ln cm la va sy ry lb le op Mrw bg Mlo cd wd Mrm rg rr Mpl lm nx sp Mle Mla : Int32} (hC : CJ c so dr op rg bg sf lf tf mf S K L) : (CJ (c + 1) 0 0 0 0 bg sf lf tf mf S K []) ∧ (WJ 0 0 sr a lo sz rm rw Mrw bg Mlo cd wd Mrm []) ∧ (RJ (960 * (1000 - (c + 1))) 0 dw pl ln cm la va sy ry lb le rr Mpl lm nx av sp Mle Mla []) := by
  obtain ⟨h1, h2, h3, h4, h5, h6, h7, h8, h9, h10⟩ := hC
  exact ⟨⟨rfl, Or.inl rfl, rfl, Or.inl rfl, h5, h6, fun b hb => absurd hb List.not_mem_nil, h8, LBd_mk (Nat.zero_le _) (fun _ => Nat.zero_le _) (fun _ => Nat.zero_le _), fun _ => rfl⟩, fun q => absurd rfl q, fun q => absurd rfl q⟩
theorem nd_write {c : Nat} {L : List Int32} {sf lf tf mf S K : Nat → Int32} {so sr dr a lo sz rm rw op Mrw bg Mlo cd wd Mrm rg : Int32} (hC : CJ c so dr op rg bg sf lf tf mf S K L) (hW : WJ so dr sr a lo sz rm rw Mrw bg Mlo cd wd Mrm L) : (¬ bg < 0) ∧ (op = 0 ∨ mwv Mrw bg cd wd Mrm S L) := by
  obtain ⟨h1, h2, h3, h4, h5, h6, h7, h8, h9, h10⟩ := hC
  refine ⟨h8, ?_⟩
  by_cases c0 : so = 0
  · exact Or.inl (h1.trans c0)
  · obtain ⟨w1, w2, a0, w3, w4⟩ := hW c0
    rw [w1, w3]
    exact Or.inr (WR_v w4 h6)
theorem nd_close {c : Nat} {L : List Int32} {sf lf tf mf S K : Nat → Int32} {so sr dr a lo sz rm rw op Mrw bg Mlo cd wd Mrm rg : Int32} (hC : CJ c so dr op rg bg sf lf tf mf S K L) (hW : WJ so dr sr a lo sz rm rw Mrw bg Mlo cd wd Mrm L) (hc : c < 512) : (¬ bg < 0) ∧ (op = 0 ∨ mwu Mrw bg cd Mrm L) ∧ (op = 0 ∨ L.length + 2 ≤ 65536) := by
  obtain ⟨h1, h2, h3, h4, h5, h6, h7, h8, h9, h10⟩ := hC
  by_cases c0 : so = 0
  · exact ⟨h8, Or.inl (h1.trans c0), Or.inl (h1.trans c0)⟩
  · obtain ⟨w1, w2, a0, w3, w4⟩ := hW c0
    have hb := LBd_3 h9 c0
    rw [w1, w3]
    exact ⟨by rw [← w3]; exact h8, Or.inr (WR_u w4), Or.inr (by omega)⟩
theorem nd_bits {c : Nat} {L : List Int32} {sf lf tf mf S K : Nat → Int32} {av : Int64} {so dr dw pl ln cm la va sy ry lb le op bg rg rr Mpl lm nx sp Mle Mla : Int32} (hC : CJ c so dr op rg bg sf lf tf mf S K L) (hJ : RJ (960 * (1000 - c)) dr dw pl ln cm la va sy ry lb le rr Mpl lm nx av sp Mle Mla L) (hc : c < 512) : sok S ∧ (rg = 0 ∨ (rdok Mpl lm L ∧ nxk 960 nx ∧ (rr = 0 → mww sp))) := by
  obtain ⟨h1, h2, h3, h4, h5, h6, h7, h8, h9, h10⟩ := hC
  refine ⟨h6, ?_⟩
  by_cases c0 : dr = 0
  · exact Or.inl (h3.trans c0)
  · obtain ⟨f1, f2, f3, f4, f5⟩ := hJ c0
    subst f1
    subst f2
    subst f3
    refine Or.inr ⟨f4, ?_, fun z => (f5.1 z).2⟩
    by_cases z : rr = 0
    · obtain ⟨s, v, r, b, j, l, _, _, _, _, _, _, _, _, _, _, _, _, q4, _, _, _, q8⟩ := (f5.1 z).1
      exact ⟨j, q4, by omega⟩
    · obtain ⟨r, b, j, l, _, _, _, _, _, _, q4, _, _, _, q8, _⟩ := f5.2 z
      exact ⟨j, q4, by omega⟩

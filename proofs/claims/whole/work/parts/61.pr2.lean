theorem ushr16 {v : Nat} (hv : v < 4294967296) : jushr (nI v) 16 = nI (v / 65536) := by
  have hs : (((nI 16).toUInt32 &&& Int32.toUInt32 31).toBitVec % 32).toNat = 16 := by decide +kernel
  exact pk_ushrN (by omega) (nI 16) 16 hs
theorem crl_p {sf lf tf mf S K : Nat → Int32} {c : Nat} (h : crl sf lf tf mf S K) (hS : sok S) (hc : c < 19) : prt tf (nI c) = mpt S (nI (19 + c)) ∧ ent 19 mf (nI c) = K (nI (19 + c)).toNatClampNeg ∧ ∃ p : Nat, mpt S (nI (19 + c)) = nI p ∧ 1 ≤ p ∧ p ≤ 22017 := by
  obtain ⟨g1, g2, g3, g4⟩ := h c hc
  have hs : vp_in (S (19 + c)) 47 := hS _ (by omega)
  refine ⟨?_, ?_, ?_⟩
  · rw [prt, ent_n tf hc (by decide), g3, ent_st hs, mpt, nI_clamp (by omega)]
  · rw [ent_n mf hc (by decide), g4, nI_clamp (by omega)]
  · rw [mpt, nI_clamp (by omega)]; exact tfP_rng hs
/-- a bit that is read, in both -/
def rdq (T : Nat) (ln : Int32) (sf lf : Nat → Int32) (p : Int32 × Int32 × Int32 × Int32 × Int32 × Int32 × (Nat → Int32) × (Nat → Int32)) (q : Int32 × Int32 × Int64 × Int32 × Int32 × Int32 × (Nat → Int32) × (Nat → Int32)) : Prop :=
  p.1 = q.1 ∧ CRR T ln p.2.1 p.2.2.1 p.2.2.2.1 p.2.2.2.2.1 p.2.2.2.2.2.1 q.2.1 q.2.2.1 q.2.2.2.1 q.2.2.2.2.1 q.2.2.2.2.2.1 ∧ crl sf lf p.2.2.2.2.2.2.1 p.2.2.2.2.2.2.2 q.2.2.2.2.2.2.1 q.2.2.2.2.2.2.2
theorem rfL_mre {T c : Nat} {L : List Int32} {pl ln la va sz rm cm sp : Int32} {av : Int64} {le Mla nx : Int32} {sf lf tf mf S K : Nat → Int32} (hb : bok L) (h : CRR (15 + T) ln la va sz rm cm sp av le Mla nx) (hr : crl sf lf tf mf S K) (hS : sok S) (hc : c < 19) :
    rdq T ln sf lf (rfL L pl ln la va sz rm cm tf mf (nI c)) (mre S K L pl ln sp av le Mla nx (nI (19 + c)) 1) := by
  have h1 := ren_mrl 15 L pl T ln la va sz rm cm sp av le Mla nx hb h
  unfold rfL mre rdq
  dsimp only
  refine ⟨?_, h1, crl_rL hr hc (hS _ (by omega))⟩
  rw [if_neg (by decide)]; exact (crl_p hr hS hc).2.1
theorem rfO_mre {T c : Nat} {L : List Int32} {pl ln la va sz rm cm sp : Int32} {av : Int64} {le Mla nx : Int32} {sf lf tf mf S K : Nat → Int32} (hb : bok L) (h : CRR (15 + T) ln la va sz rm cm sp av le Mla nx) (hr : crl sf lf tf mf S K) (hS : sok S) (hc : c < 19) :
    rdq T ln sf lf (rfO L pl ln la va sz rm cm tf mf (nI c)) (mre S K L pl ln sp av le Mla nx (nI (19 + c)) 0) := by
  have h1 := ren_mrl 15 L pl T ln la va sz rm cm sp av le Mla nx hb h
  unfold rfO mre rdq
  dsimp only
  refine ⟨?_, h1, crl_rO hr hc (hS _ (by omega))⟩
  rw [if_pos rfl, (crl_p hr hS hc).2.1]
theorem rnb_mrc {T c : Nat} {L : List Int32} {pl ln la va sz rm cm sp : Int32} {av : Int64} {le Mla nx : Int32} {sf lf tf mf S K : Nat → Int32} (hb : bok L) (h : CRR (15 + T) ln la va sz rm cm sp av le Mla nx) (hsp : mww sp) (hr : crl sf lf tf mf S K) (hS : sok S) (hc : c < 19) :
    rdq T ln sf lf (rnb L pl ln la va sz rm cm tf mf (nI c)) (mrc S K L pl ln sp av le Mla nx (nI (19 + c))) := by
  obtain ⟨s, v, r, b, j, l, rfl, rfl, hs, rfl, hv, hav, rfl, rfl, hr8, rfl, rfl, hbb, rfl, rfl, hl, rfl, hj⟩ := h
  obtain ⟨s', e', hs1, hs2⟩ := hsp
  have hse := (nI_eq (a := s) (b := s') (by omega) (by omega)).mp e'
  subst hse
  obtain ⟨ep, eK, p, e2, hp1, hp2⟩ := crl_p hr hS hc
  rw [rnb, mrc, ep, e2, nI_sub (by omega : p ≤ s), s_16 (by omega)]
  have e16 : nI p <<< ((16 : Int32) &&& 31) = nI (p * 65536) := nI_shl (a := p) (d := 16) (by omega) (by omega)
  rw [ushr16 hv, e16]
  by_cases c1 : p * 65536 ≤ v
  · rw [if_pos (show nI p ≤ nI (v / 65536) from nI_le (by omega) (by omega)), if_pos (show lg_cmp av (lN ((s - p) * 65536)) < 0 from (lg_cmp_lt _ _).mpr (Int64.lt_iff_toInt_lt.mpr (by rw [hav, pk_lT (by omega)]; omega))), nI_sub c1]
    have hC : CRR (15 + T) (nI l) (nI b) (nI (v - p * 65536)) (nI (s - p)) (nI r) (nI (min j l)) (nI (s - p)) av (nI r) (nI b) (nI j) := ⟨s - p, v - p * 65536, r, b, j, l, rfl, rfl, by omega, rfl, by omega, by rw [hav]; omega, rfl, rfl, hr8, rfl, rfl, hbb, rfl, rfl, hl, rfl, hj⟩
    by_cases c2 : nI (s - p) < 32768
    · rw [if_pos c2, if_pos c2]
      rcases Nat.lt_or_ge (s - p) p with c3 | c3
      · rw [if_pos (show nI (s - p) < nI p from nI_lt c3 (by omega)), if_neg (show ¬ nI p ≤ nI (s - p) from nI_ge c3 (by omega))]
        exact rfO_mre hb hC hr hS hc
      · rw [if_neg (show ¬ nI (s - p) < nI p from nI_nlt c3 (by omega)), if_pos (show nI p ≤ nI (s - p) from nI_le c3 (by omega))]
        exact rfL_mre hb hC hr hS hc
    · rw [if_neg c2, if_neg c2]
      exact ⟨eK, CRR_m hC (by omega), hr⟩
  · rw [if_neg (show ¬ nI p ≤ nI (v / 65536) from nI_ge (by omega) (by omega)), if_neg (show ¬ lg_cmp av (lN ((s - p) * 65536)) < 0 from fun q => by have q1 := Int64.lt_iff_toInt_lt.mp ((lg_cmp_lt _ _).mp q); rw [hav, pk_lT (by omega)] at q1; omega)]
    have hC : CRR (15 + T) (nI l) (nI b) (nI v) (nI p) (nI r) (nI (min j l)) (nI p) (av - lN ((s - p) * 65536)) (nI r) (nI b) (nI j) := ⟨p, v, r, b, j, l, rfl, rfl, by omega, rfl, by omega, by rw [l_sub hav (pk_lT (by omega)) (by omega) (by omega)]; omega, rfl, rfl, hr8, rfl, rfl, hbb, rfl, rfl, hl, rfl, hj⟩
    rcases Nat.lt_or_ge (s - p) p with c3 | c3
    · rw [if_neg (show ¬ nI p ≤ nI (s - p) from nI_ge c3 (by omega)), if_neg (show ¬ nI p ≤ nI (s - p) from nI_ge c3 (by omega))]
      exact rfL_mre hb hC hr hS hc
    · rw [if_pos (show nI p ≤ nI (s - p) from nI_le c3 (by omega)), if_pos (show nI p ≤ nI (s - p) from nI_le c3 (by omega))]
      exact rfO_mre hb hC hr hS hc
/-! the raw reader -/
def RRR (T : Nat) (ln lb le cm Mle Mla nx : Int32) : Prop := ∃ r b j l : Nat, le = nI r ∧ Mle = nI r ∧ r ≤ 8 ∧ lb = nI b ∧ Mla = nI b ∧ b < 256 ∧ nx = nI j ∧ ln = nI l ∧ l ≤ 65536 ∧ cm = nI (min j l) ∧ j + T < 2 ^ 31 ∧ (j = 0 → ¬ b = 255)
theorem rr2_mr4 {T : Nat} {l b r j : Nat} (hb : b < 256) (h1 : 1 ≤ r) (h8 : r ≤ 8) (hl : l ≤ 65536) (hj : j + T < 2 ^ 31) (h0 : j = 0 → ¬ b = 255) {cm : Int32} (hcm : cm = nI (min j l)) :
    (rrb2 (nI b) (nI r) cm).1 = (mr4 (nI b) (nI r) (nI j)).1 ∧ RRR T (nI l) (rrb2 (nI b) (nI r) cm).2.1 (rrb2 (nI b) (nI r) cm).2.2.1 (rrb2 (nI b) (nI r) cm).2.2.2 (mr4 (nI b) (nI r) (nI j)).2.1 (mr4 (nI b) (nI r) (nI j)).2.2.1 (mr4 (nI b) (nI r) (nI j)).2.2.2 := by
  have e1 : nI r - 1 = nI (r - 1) := nI_sub (a := r) (b := 1) h1
  unfold rrb2 mr4
  dsimp only
  rw [e1, ush_eq (by omega) (r - 1) (by omega)]
  exact ⟨rfl, r - 1, b, j, l, rfl, rfl, by omega, rfl, rfl, hb, rfl, rfl, hl, hcm, hj, h0⟩
theorem rrb_mrr {T : Nat} {L : List Int32} {pl ln lb le cm Mle Mla nx : Int32} (hb : bok L) (h : RRR (1 + T) ln lb le cm Mle Mla nx) :
    (rrb L pl ln lb le cm).1 = (mrr L pl ln nx Mla Mle).1 ∧ RRR T ln (rrb L pl ln lb le cm).2.1 (rrb L pl ln lb le cm).2.2.1 (rrb L pl ln lb le cm).2.2.2 (mrr L pl ln nx Mla Mle).2.1 (mrr L pl ln nx Mla Mle).2.2.1 (mrr L pl ln nx Mla Mle).2.2.2 := by
  obtain ⟨r, b, j, l, rfl, rfl, hr, rfl, rfl, hbb, rfl, rfl, hl, rfl, hj, h0⟩ := h
  obtain ⟨e1, e2⟩ := spk_min (L := L) (pl := pl) (j := j) (l := l) (by omega) hl
  obtain ⟨q, hq, e3⟩ := spk_b hb pl (nI l) (nI j)
  unfold rrb mrr
  by_cases c : nI r = 0
  · rw [if_pos c, if_pos c, e1, e2, e3, nI_1]
    rcases Nat.eq_zero_or_pos j with z | z
    · subst z
      rw [if_neg (show ¬ nI b = 255 from fun k => h0 rfl ((nI_eq (a := b) (b := 255) (by omega) (by omega)).mp k)), if_pos (show nI 0 ≤ 0 by decide)]
      exact rr2_mr4 hq (r := 8) (by omega) (by omega) hl (by omega) (by omega) rfl
    · rw [if_neg (show ¬ nI j ≤ 0 from nI_nle z (by omega))]
      by_cases c2 : nI b = 255
      · rw [if_pos c2, if_pos c2]; exact rr2_mr4 hq (r := 7) (by omega) (by omega) hl (by omega) (by omega) rfl
      · rw [if_neg c2, if_neg c2]; exact rr2_mr4 hq (r := 8) (by omega) (by omega) hl (by omega) (by omega) rfl
  · rw [if_neg c, if_neg c]
    have hr1 : 1 ≤ r := by
      rcases Nat.eq_zero_or_pos r with q | q
      · subst q; exact absurd rfl c
      · exact q
    exact rr2_mr4 hbb hr1 hr hl (by omega) h0 rfl
/-- the reader, in both -/
def RR (T : Nat) (dw ln la va sy ry cm lb le sp : Int32) (av : Int64) (Mle Mla nx : Int32) : Prop := (dw = 0 → CRR T ln la va sy ry cm sp av Mle Mla nx ∧ mww sp) ∧ (¬ dw = 0 → RRR T ln lb le cm Mle Mla nx)
theorem blp_mbq (t : Nat) : ∀ (T : Nat) (dw x pl ln : Int32) (L : List Int32) (w : Int64) (la va sy ry cm lb le sp : Int32) (av : Int64) (Mle Mla nx : Int32) (sf lf tf mf S K : Nat → Int32), bok L → RR (15 * t + T) dw ln la va sy ry cm lb le sp av Mle Mla nx → crl sf lf tf mf S K → sok S → (dw = 0 → mot x 0 18 = 0) →
    (blp t dw L pl ln x w la va sy ry cm tf mf lb le).1 = (mbq t dw L pl ln x w sp av Mle Mla nx S K).1 ∧
    RR T dw ln (blp t dw L pl ln x w la va sy ry cm tf mf lb le).2.1 (blp t dw L pl ln x w la va sy ry cm tf mf lb le).2.2.1 (blp t dw L pl ln x w la va sy ry cm tf mf lb le).2.2.2.1 (blp t dw L pl ln x w la va sy ry cm tf mf lb le).2.2.2.2.1 (blp t dw L pl ln x w la va sy ry cm tf mf lb le).2.2.2.2.2.1 (blp t dw L pl ln x w la va sy ry cm tf mf lb le).2.2.2.2.2.2.2.2.1 (blp t dw L pl ln x w la va sy ry cm tf mf lb le).2.2.2.2.2.2.2.2.2
      (mbq t dw L pl ln x w sp av Mle Mla nx S K).2.1 (mbq t dw L pl ln x w sp av Mle Mla nx S K).2.2.1 (mbq t dw L pl ln x w sp av Mle Mla nx S K).2.2.2.1 (mbq t dw L pl ln x w sp av Mle Mla nx S K).2.2.2.2.1 (mbq t dw L pl ln x w sp av Mle Mla nx S K).2.2.2.2.2.1 ∧
    crl sf lf (blp t dw L pl ln x w la va sy ry cm tf mf lb le).2.2.2.2.2.2.1 (blp t dw L pl ln x w la va sy ry cm tf mf lb le).2.2.2.2.2.2.2.1 (mbq t dw L pl ln x w sp av Mle Mla nx S K).2.2.2.2.2.2.1 (mbq t dw L pl ln x w sp av Mle Mla nx S K).2.2.2.2.2.2.2 ∧ sok (mbq t dw L pl ln x w sp av Mle Mla nx S K).2.2.2.2.2.2.1 := by
  induction t with
  | zero => intro T dw x pl ln L w la va sy ry cm lb le sp av Mle Mla nx sf lf tf mf S K hb h hr hS hx; rw [Nat.mul_zero, Nat.zero_add] at h; exact ⟨rfl, h, hr, hS⟩
  | succ t ih =>
    intro T dw x pl ln L w la va sy ry cm lb le sp av Mle Mla nx sf lf tf mf S K hb h hr hS hx
    rw [blp, mbq]
    by_cases c : dw = 0
    · rw [if_pos c, if_pos c]
      obtain ⟨h1, h2⟩ := h.1 c
      obtain ⟨q, hq, rfl⟩ := mot_ctx (hx c)
      have h1' : CRR (15 + (15 * t + T)) ln la va sy ry cm sp av Mle Mla nx := CRR_m h1 (by omega)
      have hn : nxk (15 + (15 * t + T)) nx := by
        obtain ⟨s, v, r, b, j, l, g1, g2, g3, g4, g5, g6, g7, g8, g9, f1, f2, f3, f4, f5, f6, f7, f8⟩ := h1'
        exact ⟨j, f4, by omega⟩
      obtain ⟨k1, k2, k3⟩ := rnb_mrc (pl := pl) hb h1' h2 hr hS hq
      have e19 : (19 : Int32) + nI q = nI (19 + q) := nI_add 19 q
      have k4 := mrc_ok (K := K) (L := L) (pl := pl) (lm := ln) (av := av) (le := Mle) (la := Mla) (x := nI (19 + q)) hS (vp_in_nI (by omega) (by decide)) h2 hn
      rw [e19, k1]
      exact ih T dw (nI q) pl ln L _ _ _ _ _ _ _ _ _ _ _ _ _ _ _ _ _ _ _ hb ⟨fun _ => ⟨k2, k4.1⟩, fun z => absurd c z⟩ k3 k4.2.2 hx
    · rw [if_neg c, if_neg c]
      have h1 := h.2 c
      have h1' : RRR (1 + (15 * t + T)) ln lb le cm Mle Mla nx := by
        obtain ⟨r, b, j, l, g1, g2, g3, g4, g5, g6, g7, g8, g9, f1, f2, f3⟩ := h1
        exact ⟨r, b, j, l, g1, g2, g3, g4, g5, g6, g7, g8, g9, f1, by omega, f3⟩
      obtain ⟨k1, k2⟩ := rrb_mrr (pl := pl) hb h1'
      rw [k1]
      exact ih T dw x pl ln L _ _ _ _ _ _ _ _ _ _ _ _ _ _ _ _ _ _ _ hb ⟨fun z => absurd z c, fun _ => k2⟩ hr hS hx
/-- where reading begins, in both -/
theorem rbg_mrv {T : Nat} {L : List Int32} {y : Int32} {l : Nat} (hb : bok L) (hl : l ≤ 65536) (hT : 2 + T < 2 ^ 31) : CRR T (nI l) (rbg L y (nI l) 0).1 (rbg L y (nI l) 0).2.1 32768 (rbg L y (nI l) 0).2.2.1 (rbg L y (nI l) 0).2.2.2 32768 (mra L y (nI l)) ((mrv L y (nI l)).2.1 - 7) (mrv L y (nI l)).2.2.1 (mrv L y (nI l)).2.2.2 := by
  obtain ⟨e1, e2⟩ := spk_min (L := L) (pl := y) (j := 0) (l := l) (by omega) hl
  obtain ⟨q, hq, e3⟩ := spk_b hb y (nI l) (nI 0)
  have e4 : scm (nI l) 0 = nI (min 1 l) := by
    rw [show min 0 l = 0 by omega] at e2; exact e2
  have e5 : spk L y (nI l) 0 = nI q := e3
  have e6 : nI q <<< ((16 : Int32) &&& 31) = nI (q * 65536) := nI_shl (a := q) (d := 16) (by omega) (by omega)
  obtain ⟨b', d, r', j', g1, g2, k1, k2, k3, k4, k5⟩ := rbi_mci hb y (b := q) (v := q * 65536) (j := 1) (l := l) hq (by omega) hl
  have g2' : mrv L y (nI l) = (nI d, nI r', nI b', nI j') := by rw [mrv, e5]; exact g2
  have hr7 : 7 ≤ r' := by
    have h7 : (mci L y (nI l) (nI 1) (nI q)).2.1 = 7 ∨ (mci L y (nI l) (nI 1) (nI q)).2.1 = 8 := by
      unfold mci
      repeat' split
      · exact Or.inl rfl
      · exact Or.inr rfl
      · exact Or.inr rfl
    rw [g2] at h7
    rcases h7 with h | h
    · have := (nI_eq (a := r') (b := 7) (by omega) (by omega)).mp h; omega
    · have := (nI_eq (a := r') (b := 8) (by omega) (by omega)).mp h; omega
  rw [rbg, e5, e4, e6, g1, g2', mra, e5, g2']
  dsimp only
  have e7 : nI (q * 65536 + d) <<< ((7 : Int32) &&& 31) = nI ((q * 65536 + d) * 128) := nI_shl (a := q * 65536 + d) (d := 7) (by omega) (by omega)
  have e8 : ((nI q).toInt64 <<< ((16 : Int32).toInt64 &&& 63) + (nI d).toInt64) <<< ((7 : Int32).toInt64 &&& 63) = lN ((q * 65536 + d) * 128) := by
    rw [s_16 (by omega), nI_l (by omega), show lN (q * 65536) + lN d = lN (q * 65536 + d) from (Int64.toInt_inj.mp (by rw [l_add (pk_lT (by omega)) (pk_lT (by omega)) (by omega) (by omega), pk_lT (by omega)]; omega))]
    exact l_shl (k := 7) (by omega)
  rw [e7, e8]
  refine ⟨32768, (q * 65536 + d) * 128, r' - 7, b', j', l, rfl, rfl, by omega, rfl, by omega, ?_, ?_, ?_, by omega, rfl, rfl, k1, rfl, rfl, hl, rfl, by omega⟩
  · rw [l_sub (show (2147483647 : Int64).toInt = 2147483647 from rfl) (pk_lT (by omega)) (by omega) (by omega)]; omega
  · exact nI_sub (a := r') (b := 7) hr7
  · exact nI_sub (a := r') (b := 7) hr7

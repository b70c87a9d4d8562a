/-! contexts: the class's four arrays, the reference's two -/
def crl (sf lf tf mf S K : Nat → Int32) : Prop := ∀ q : Nat, q < 19 → sf q = S q ∧ lf q = K q ∧ tf q = S (19 + q) ∧ mf q = K (19 + q)
theorem mot_ctx {x : Int32} (h : mot x 0 18 = 0) : ∃ c : Nat, c < 19 ∧ x = nI c := by
  obtain ⟨h1, h2⟩ := mot_0 h
  obtain ⟨j, hj, rfl⟩ := nI_of2 (M := 18) (n := 18) rfl h1 h2
  exact ⟨j, by omega, rfl⟩
theorem ent_n {n c : Nat} (f : Nat → Int32) (h : c < n) (hn : n < 2 ^ 31) : ent n f (nI c) = f c := by
  rw [ent, if_neg (nI_pos (by omega)), if_neg (nI_ge h hn), nI_clamp (by omega)]
theorem ent_st {f : Nat → Int32} {s : Int32} (h : vp_in s 47) : ent 47 f s = f s.toNatClampNeg := by
  obtain ⟨j, hj, rfl⟩ := vp_in_of h (by decide)
  rw [ent_n f hj (by decide), nI_clamp (by omega)]
theorem nxo_N {s : Int32} (h : vp_in s 47) : tfN s.toNatClampNeg = nxo s := by
  obtain ⟨j, hj, rfl⟩ := vp_in_of h (by decide)
  rw [nI_clamp (by omega)]
  have h1 : ∀ j, j < 47 → tfN j = nxo (nI j) := by decide +kernel
  exact h1 j hj
theorem cset_n {c : Nat} (sf lf : Nat → Int32) (y z : Int32) (h : c < 19) : cset sf lf (nI c) y z = (upd sf c y, upd lf c z) := by
  rw [cset, if_neg (nI_pos (by omega)), if_neg (show ¬ (19 : Int32) ≤ nI c from (show ¬ nI 19 ≤ nI c from nI_ge h (by decide))), nI_clamp (by omega)]
theorem mch_K {S K : Nat → Int32} {c : Nat} (hc : c < 2 ^ 31) (i : Int32) : (mch S K tfO (nI c) i).1 = upd S c (if i = 0 then tfO (S c).toNatClampNeg else nxo (S c)) ∧ (mch S K tfO (nI c) i).2 = if i = 0 then (if trn (S c) = 0 then K else upd K c (1 - K c)) else K := by
  rw [mch, nI_clamp hc]
  refine ⟨rfl, ?_⟩
  dsimp only
  by_cases h : i = 0
  · rw [if_pos h, if_pos h]
    unfold trn
    by_cases h0 : S c = 0
    · rw [if_pos h0, if_pos h0, if_neg (by decide)]
    · rw [if_neg h0, if_neg h0]
      by_cases h6 : S c = 6
      · rw [if_pos h6, if_pos h6, if_neg (by decide)]
      · rw [if_neg h6, if_neg h6]
        by_cases h14 : S c = 14
        · rw [if_pos h14, if_pos h14, if_neg (by decide)]
        · rw [if_neg h14, if_neg h14, if_pos rfl]
  · rw [if_neg h, if_neg h]
theorem crl_wL {sf lf tf mf S K : Nat → Int32} {c : Nat} (h : crl sf lf tf mf S K) (hc : c < 19) (hS : vp_in (S c) 47) : crl (cLk sf lf (nI c)).1 (cLk sf lf (nI c)).2 tf mf (mch S K tfO (nI c) 1).1 (mch S K tfO (nI c) 1).2 := by
  obtain ⟨m1, m2⟩ := mch_K (S := S) (K := K) (c := c) (by omega) 1
  rw [m1, m2, cLk, ent_n sf hc (by decide), ent_n lf hc (by decide), cset_n _ _ _ _ hc, (h c hc).1, ent_st hS, nxo_N hS, if_neg (by decide), if_neg (by decide)]
  intro q hq
  obtain ⟨g1, g2, g3, g4⟩ := h q hq
  dsimp only
  refine ⟨?_, ?_, ?_, g4⟩
  · unfold upd; split
    · rfl
    · exact g1
  · unfold upd; split
    · rename_i e; subst e; exact g2
    · exact g2
  · unfold upd; rw [if_neg (by omega)]; exact g3
theorem crl_wO {sf lf tf mf S K : Nat → Int32} {c : Nat} (h : crl sf lf tf mf S K) (hc : c < 19) (hS : vp_in (S c) 47) : crl (cOt sf lf (nI c)).1 (cOt sf lf (nI c)).2 tf mf (mch S K tfO (nI c) 0).1 (mch S K tfO (nI c) 0).2 := by
  obtain ⟨m1, m2⟩ := mch_K (S := S) (K := K) (c := c) (by omega) 0
  rw [m1, m2, cOt, ent_n sf hc (by decide), ent_n lf hc (by decide), cset_n _ _ _ _ hc, (h c hc).1, ent_st hS, if_pos rfl, if_pos rfl]
  intro q hq
  obtain ⟨g1, g2, g3, g4⟩ := h q hq
  obtain ⟨-, f2, -, -⟩ := h c hc
  dsimp only
  refine ⟨?_, ?_, ?_, ?_⟩
  · unfold upd; split
    · rfl
    · exact g1
  · by_cases t : trn (S c) = 0
    · rw [if_pos t, if_pos t]
      unfold upd; split
      · rename_i e; subst e; exact g2
      · exact g2
    · rw [if_neg t, if_neg t, f2]
      unfold upd; split
      · rfl
      · exact g2
  · unfold upd; rw [if_neg (by omega)]; exact g3
  · by_cases t : trn (S c) = 0
    · rw [if_pos t]; exact g4
    · rw [if_neg t]; unfold upd; rw [if_neg (by omega)]; exact g4
theorem crl_rL {sf lf tf mf S K : Nat → Int32} {c : Nat} (h : crl sf lf tf mf S K) (hc : c < 19) (hS : vp_in (S (19 + c)) 47) : crl sf lf (cLk tf mf (nI c)).1 (cLk tf mf (nI c)).2 (mch S K tfO (nI (19 + c)) 1).1 (mch S K tfO (nI (19 + c)) 1).2 := by
  obtain ⟨m1, m2⟩ := mch_K (S := S) (K := K) (c := 19 + c) (by omega) 1
  rw [m1, m2, cLk, ent_n tf hc (by decide), ent_n mf hc (by decide), cset_n _ _ _ _ hc, (h c hc).2.2.1, ent_st hS, nxo_N hS, if_neg (by decide), if_neg (by decide)]
  intro q hq
  obtain ⟨g1, g2, g3, g4⟩ := h q hq
  dsimp only
  refine ⟨?_, g2, ?_, ?_⟩
  · unfold upd; rw [if_neg (by omega)]; exact g1
  · unfold upd
    by_cases e : q = c
    · rw [if_pos e, if_pos (by omega)]
    · rw [if_neg e, if_neg (by omega)]; exact g3
  · unfold upd; split
    · rename_i e; subst e; exact g4
    · exact g4
theorem crl_rO {sf lf tf mf S K : Nat → Int32} {c : Nat} (h : crl sf lf tf mf S K) (hc : c < 19) (hS : vp_in (S (19 + c)) 47) : crl sf lf (cOt tf mf (nI c)).1 (cOt tf mf (nI c)).2 (mch S K tfO (nI (19 + c)) 0).1 (mch S K tfO (nI (19 + c)) 0).2 := by
  obtain ⟨m1, m2⟩ := mch_K (S := S) (K := K) (c := 19 + c) (by omega) 0
  rw [m1, m2, cOt, ent_n tf hc (by decide), ent_n mf hc (by decide), cset_n _ _ _ _ hc, (h c hc).2.2.1, ent_st hS, if_pos rfl, if_pos rfl]
  intro q hq
  obtain ⟨g1, g2, g3, g4⟩ := h q hq
  obtain ⟨-, -, -, f4⟩ := h c hc
  dsimp only
  refine ⟨?_, ?_, ?_, ?_⟩
  · unfold upd; rw [if_neg (by omega)]; exact g1
  · by_cases t : trn (S (19 + c)) = 0
    · rw [if_pos t]; exact g2
    · rw [if_neg t]; unfold upd; rw [if_neg (by omega)]; exact g2
  · unfold upd
    by_cases e : q = c
    · rw [if_pos e, if_pos (by omega)]
    · rw [if_neg e, if_neg (by omega)]; exact g3
  · by_cases t : trn (S (19 + c)) = 0
    · rw [if_pos t, if_pos t]
      unfold upd; split
      · rename_i e; subst e; exact g4
      · exact g4
    · rw [if_neg t, if_neg t, f4]
      unfold upd
      by_cases e : q = c
      · rw [if_pos e, if_pos (by omega)]
      · rw [if_neg e, if_neg (by omega)]; exact g4
/-! a coded bit -/
def CWR (a : Nat) (lo sz rm Mlo cd wd Mrm : Int32) (L : List Int32) : Prop := ∃ x s r : Nat, lo = nI x ∧ sz = nI s ∧ rm = nI r ∧ wd = nI s ∧ Mrm = nI r ∧ cwi a x s r L ∧ 32768 ≤ s ∧ s < 65536 ∧ cd = mkc L (nI a) (nI r) (nI x) ∧ Mlo = nI x - mcy cd (nI r)
theorem enl_mwe {a x s r n : Nat} {L : List Int32} {S K : Nat → Int32} {c i : Int32} (hc : cwi a x s r L) (h1 : 1 ≤ s) (h2 : s < 65536) (hl : L.length + 15 ≤ 65536) {e : Int32 × Int32 × Int32 × Nat × List Int32} (he : e = enl 15 (nI a) (nI x) (nI s) (nI r) n L) {m : Int32 × Int32 × Int32 × Int32 × (Nat → Int32) × (Nat → Int32) × List Int32}
    (hm : m = mwe S K (nI a) (nI x - mcy (mkc L (nI a) (nI r) (nI x)) (nI r)) (mkc L (nI a) (nI r) (nI x)) (nI s) (nI r) L c i) :
    CWR a e.1 e.2.1 e.2.2.1 m.1 m.2.1 m.2.2.1 m.2.2.2.1 m.2.2.2.2.2.2 ∧ e.2.2.2.2 = m.2.2.2.2.2.2 := by
  obtain ⟨d, d1, d2, d3, d4⟩ := mdb_spec 15 s 0 h2 (by omega)
  have d5 : mdb 15 (nI s) 0 = nI d := by rw [show mdb 15 (nI s) 0 = nI (0 + d) from d2, Nat.zero_add]
  have hmin : ∀ i, i < d → s * 2 ^ i < 32768 := fun i hi => by
    have h3 : 2 * (s * 2 ^ i) ≤ s * 2 ^ d := by
      have : 2 ^ (i + 1) ≤ 2 ^ d := Nat.pow_le_pow_right (by decide) (by omega)
      calc 2 * (s * 2 ^ i) = s * 2 ^ (i + 1) := by rw [Nat.pow_succ, Nat.mul_comm 2 (s * 2 ^ i), Nat.mul_assoc]
        _ ≤ s * 2 ^ d := Nat.mul_le_mul_left s this
    omega
  have hq := cw_enl d 15 15 a x s r n L d1 d1 (by omega) hmin d3 d4 hc (by omega)
  rw [← he] at hq
  rw [hm, mwe, mwf, d5, nI_shl (by omega) (by omega)]
  obtain ⟨x', r', q1, q2, q3, q4, q5, q6, q7, q8⟩ := hq
  exact ⟨⟨x', s * 2 ^ d, r', q1, q2, q3, rfl, q4, q6, d3, d4, q7, q8⟩, q5⟩
theorem enl_id {t a x s r n : Nat} {L : List Int32} (h : 32768 ≤ s) (h2 : s < 65536) : enl (t + 1) (nI a) (nI x) (nI s) (nI r) n L = (nI x, nI s, nI r, n, L) := by
  rw [enl, if_pos (w_le h (by omega))]
theorem wad_mwc {a c n : Nat} {lo sz rm Mlo cd wd Mrm b : Int32} {L : List Int32} {sf lf tf mf S K : Nat → Int32} (hw : CWR a lo sz rm Mlo cd wd Mrm L) (hr : crl sf lf tf mf S K) (hS : sok S) (hc : c < 19) (hl : L.length + 15 ≤ 65536) :
    CWR a (wad (nI a) lo sz rm sf lf n L (nI c) b).1 (wad (nI a) lo sz rm sf lf n L (nI c) b).2.1 (wad (nI a) lo sz rm sf lf n L (nI c) b).2.2.1 (mwc S K (nI a) Mlo cd wd Mrm L (nI c) b).1 (mwc S K (nI a) Mlo cd wd Mrm L (nI c) b).2.1 (mwc S K (nI a) Mlo cd wd Mrm L (nI c) b).2.2.1 (mwc S K (nI a) Mlo cd wd Mrm L (nI c) b).2.2.2.1 (mwc S K (nI a) Mlo cd wd Mrm L (nI c) b).2.2.2.2.2.2 ∧
    (wad (nI a) lo sz rm sf lf n L (nI c) b).2.2.2.2.2.2 = (mwc S K (nI a) Mlo cd wd Mrm L (nI c) b).2.2.2.2.2.2 ∧
    crl (wad (nI a) lo sz rm sf lf n L (nI c) b).2.2.2.1 (wad (nI a) lo sz rm sf lf n L (nI c) b).2.2.2.2.1 tf mf (mwc S K (nI a) Mlo cd wd Mrm L (nI c) b).2.2.2.2.1 (mwc S K (nI a) Mlo cd wd Mrm L (nI c) b).2.2.2.2.2.1 := by
  obtain ⟨x, s, r, rfl, rfl, rfl, rfl, rfl, hc0, h1, h2, rfl, rfl⟩ := hw
  have hSc : vp_in (S c) 47 := hS c (by omega)
  obtain ⟨p, ep, p1, p2⟩ := tfP_rng hSc
  have e1 : mpt S (nI c) = nI p := by rw [mpt, nI_clamp (by omega), ep]
  have e2 : prt sf (nI c) = nI p := by rw [prt, ent_n sf hc (by decide), (hr c hc).1, ent_st hSc, ep]
  have e3 : ent 19 lf (nI c) = K c := by rw [ent_n lf hc (by decide), (hr c hc).2.1]
  have e4 : nI s - nI p = nI (s - p) := nI_sub (by omega)
  have e5 : nI x - mcy (mkc L (nI a) (nI r) (nI x)) (nI r) + mcy (mkc L (nI a) (nI r) (nI x)) (nI r) + nI p = nI (x + p) := by rw [Int32.sub_add_cancel, nI_add]
  obtain ⟨k1, k2, k3, k4, k5⟩ := hc0
  have hx := crl_wL hr hc hSc
  have hy := crl_wO hr hc hSc
  have hA : cwi a (x + p) (s - p) r L := ⟨by omega, k2, k3, k4, k5⟩
  have hB : cwi a x p r L := ⟨by omega, k2, k3, k4, k5⟩
  have hp28 := p28c r
  simp only [wad, wa0, mwc, e1, e2, e3, e4, nI_clamp (show c < 2 ^ 31 by omega), mwo, mwk, e5]
  by_cases cb : b = K c
  · rw [if_pos cb, if_pos cb, aLk]
    by_cases c1 : nI (s - p) < 32768
    · rw [if_pos c1, if_pos c1]
      by_cases c2 : nI p ≤ nI (s - p)
      · rw [if_pos c2, if_pos c2]
        dsimp only
        rw [nI_add]
        have h9 := enl_mwe (n := n) (S := S) (K := K) (c := nI c) (i := 1) hA (by omega) (by omega) hl rfl rfl
        exact ⟨h9.1, h9.2, hx⟩
      · rw [if_neg c2, if_neg c2]
        dsimp only
        have h9 := enl_mwe (n := n) (S := S) (K := K) (c := nI c) (i := 1) hB (by omega) (by omega) hl rfl rfl
        exact ⟨h9.1, h9.2, hx⟩
    · rw [if_neg c1, if_neg c1]
      have c3 : 32768 ≤ s - p := by
        rcases Nat.lt_or_ge (s - p) 32768 with q | q
        · exact absurd (show nI (s - p) < nI 32768 from nI_lt q (by decide)) c1
        · exact q
      dsimp only
      rw [nI_add, enl_id c3 (by omega)]
      exact ⟨⟨x + p, s - p, r, rfl, rfl, rfl, rfl, rfl, hA, c3, by omega, rfl, rfl⟩, rfl, hr⟩
  · rw [if_neg cb, if_neg cb, aOt]
    by_cases c2 : nI p ≤ nI (s - p)
    · rw [if_pos c2, if_pos c2]
      dsimp only
      have h9 := enl_mwe (n := n) (S := S) (K := K) (c := nI c) (i := 0) hB (by omega) (by omega) hl rfl rfl
      exact ⟨h9.1, h9.2, hy⟩
    · rw [if_neg c2, if_neg c2]
      dsimp only
      rw [nI_add]
      have h9 := enl_mwe (n := n) (S := S) (K := K) (c := nI c) (i := 0) hA (by omega) (by omega) hl rfl rfl
      exact ⟨h9.1, h9.2, hy⟩

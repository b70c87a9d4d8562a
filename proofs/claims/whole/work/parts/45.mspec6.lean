/-! the reference's invariants -/
def sok (S : Nat → Int32) : Prop := ∀ q : Nat, q < 38 → vp_in (S q) 47
def mwv (rw bg cd wd rm : Int32) (S : Nat → Int32) (L : List Int32) : Prop := sok S ∧ (rw = 0 → (cd = 0 ∨ ¬ nI L.length ≤ bg) ∧ mwr rm ∧ mww wd) ∧ (¬ rw = 0 → (∃ r : Nat, rm = nI r ∧ r ≤ 8) ∧ (rm = 0 ∨ 0 < L.length))
theorem sh_k : ∀ d, d < 32 → ((nI d &&& 31).toBitVec.smod 32).toNat = d := by decide +kernel
theorem nI_shl {a d : Nat} (hd : d < 32) (h : a * 2 ^ d < 2 ^ 32) : nI a <<< (nI d &&& 31) = nI (a * 2 ^ d) := pk_shlN _ d (sh_k d hd) h
theorem w_le {w : Nat} (h : 32768 ≤ w) (h2 : w < 2 ^ 31) : (32768 : Int32) ≤ nI w := (show nI 32768 ≤ nI w from nI_le h h2)
theorem w_lt {w : Nat} (h : w < 32768) : ¬ (32768 : Int32) ≤ nI w := (show ¬ nI 32768 ≤ nI w from nI_ge h (by decide))
theorem mdb_spec (t : Nat) : ∀ (w j : Nat), w < 65536 → 32768 ≤ w * 2 ^ t → ∃ d : Nat, d ≤ t ∧ mdb t (nI w) (nI j) = nI (j + d) ∧ 32768 ≤ w * 2 ^ d ∧ w * 2 ^ d < 65536 := by
  induction t with
  | zero => intro w j h1 h2; exact ⟨0, Nat.le_refl _, rfl, h2, by simpa using h1⟩
  | succ t ih =>
    intro w j h1 h2
    rw [mdb]
    by_cases c : w < 32768
    · rw [if_neg (show ¬ (32768 : Int32) ≤ nI w from w_lt c), nI_add, nI_1]
      have e : ∀ d, w * 2 ^ (d + 1) = (w + w) * 2 ^ d := fun d => by rw [Nat.pow_succ, Nat.add_mul, Nat.mul_comm (2 ^ d) 2, ← Nat.mul_assoc, Nat.mul_comm w 2, Nat.mul_assoc, Nat.two_mul]
      obtain ⟨d, h3, h4, h5, h6⟩ := ih (w + w) (j + 1) (by omega) (by rw [← e]; exact h2)
      exact ⟨d + 1, by omega, by rw [h4]; congr 1; omega, by rw [e]; exact h5, by rw [e]; exact h6⟩
    · rw [if_pos (show (32768 : Int32) ≤ nI w from w_le (by omega) (by omega))]
      exact ⟨0, by omega, rfl, by simp; omega, by simpa using h1⟩
theorem mww_shl {w : Int32} (h : wdk 15 w) : mww (w <<< (mdb 15 w 0 &&& 31)) := by
  obtain ⟨j, rfl, h1, h2⟩ := h
  obtain ⟨d, h3, h4, h5, h6⟩ := mdb_spec 15 j 0 h1 h2
  rw [show mdb 15 (nI j) 0 = nI (0 + d) from h4, Nat.zero_add, nI_shl (by omega) (by omega)]
  exact ⟨_, rfl, h5, h6⟩
theorem mwl_ok (t : Nat) : ∀ (j r : Nat) (bg lo cd : Int32) (L : List Int32), j < 2 ^ 31 → 1 ≤ r → r ≤ 12 → ∃ r' : Nat, (mwl t (nI j) bg lo cd (nI r) L).2.2.1 = nI r' ∧ 1 ≤ r' ∧ r' ≤ 12 ∧ 7 * (mwl t (nI j) bg lo cd (nI r) L).2.2.2.length + r ≤ 7 * L.length + j + r' ∧ L.length ≤ (mwl t (nI j) bg lo cd (nI r) L).2.2.2.length ∧ (((mwl t (nI j) bg lo cd (nI r) L).2.2.2.length = L.length ∧ r' ≤ r) ∨ r' ≤ 8) ∧ ((mwl t (nI j) bg lo cd (nI r) L).2.1 = 0 ∨ ((mwl t (nI j) bg lo cd (nI r) L).2.1 = cd ∧ (mwl t (nI j) bg lo cd (nI r) L).2.2.2 = L)) := by
  induction t with
  | zero => intro j r bg lo cd L hj h1 h2; exact ⟨r, rfl, h1, h2, by simp [mwl], Nat.le_refl _, Or.inl ⟨rfl, Nat.le_refl _⟩, Or.inr ⟨rfl, rfl⟩⟩
  | succ t ih =>
    intro j r bg lo cd L hj h1 h2
    rw [mwl]
    by_cases c0 : nI j ≤ 0
    · rw [if_pos c0]
      exact ⟨r, rfl, h1, h2, by dsimp only; omega, Nat.le_refl _, Or.inl ⟨rfl, Nat.le_refl _⟩, Or.inr ⟨rfl, rfl⟩⟩
    rw [if_neg c0]
    by_cases c1 : r ≤ j
    · have em : mwm (nI j) (nI r) = nI r := if_pos (nI_le c1 hj)
      rw [em, if_pos (show nI r - nI r = 0 from Int32.sub_self _), nI_sub c1]
      generalize hb : mbo bg (nI j <<< (nI r &&& 31)) cd L = q0
      have hl := mbo_len bg (lo <<< (nI r &&& 31)) cd L
      obtain ⟨r1, e1, h3, h4⟩ : ∃ r1 : Nat, (mbo bg (lo <<< (nI r &&& 31)) cd L).2.1 = nI r1 ∧ 7 ≤ r1 ∧ r1 ≤ 8 := by
        rcases mbo_rm bg (lo <<< (nI r &&& 31)) cd L with h | h
        · exact ⟨7, h, by omega, by omega⟩
        · exact ⟨8, h, by omega, by omega⟩
      rw [e1]
      obtain ⟨r', g1, g2, g3, g4, g5, g6, g7⟩ := ih (j - r) r1 bg (mbo bg (lo <<< (nI r &&& 31)) cd L).1 0 (mbo bg (lo <<< (nI r &&& 31)) cd L).2.2 (by omega) (by omega) (by omega)
      refine ⟨r', g1, g2, g3, by omega, by omega, Or.inr ?_, Or.inl ?_⟩
      · rcases g6 with g | g
        · omega
        · exact g
      · rcases g7 with g | g
        · exact g
        · exact g.1
    · have em : mwm (nI j) (nI r) = nI j := if_neg (nI_ge (by omega) (by omega))
      rw [em, nI_sub (a := r) (b := j) (by omega), if_neg (show ¬ nI (r - j) = 0 from fun h => absurd ((nI_eq (a := r - j) (b := 0) (by omega) (by omega)).mp h) (by omega)), nI_sub (Nat.le_refl j), Nat.sub_self]
      obtain ⟨r', g1, g2, g3, g4, g5, g6, g7⟩ := ih 0 (r - j) bg (lo <<< (nI j &&& 31)) cd L (by omega) (by omega) (by omega)
      refine ⟨r', g1, g2, g3, by omega, g5, ?_, g7⟩
      rcases g6 with g | g
      · exact Or.inl ⟨g.1, by omega⟩
      · exact Or.inr g
theorem sok_upd {S : Nat → Int32} {v : Int32} {x : Nat} (h : sok S) (hv : vp_in v 47) : sok (upd S x v) := by
  intro q hq
  unfold upd
  split
  · exact hv
  · exact h q hq
theorem nxo_in {s : Int32} (h : vp_in s 47) : vp_in (nxo s) 47 := by
  obtain ⟨j, hj, rfl⟩ := vp_in_of h (by decide)
  have h1 : ∀ j, j < 47 → 0 ≤ (nxo (nI j)).toInt ∧ (nxo (nI j)).toInt < 47 := by decide +kernel
  exact vp_in_iff.mpr (h1 j hj)
theorem tfO_in {s : Int32} (h : vp_in s 47) : vp_in (tfO s.toNatClampNeg) 47 := by
  obtain ⟨j, hj, rfl⟩ := vp_in_of h (by decide)
  have h1 : ∀ j, j < 47 → 0 ≤ (tfO (nI j).toNatClampNeg).toInt ∧ (tfO (nI j).toNatClampNeg).toInt < 47 := by decide +kernel
  exact vp_in_iff.mpr (h1 j hj)
theorem sok_at {S : Nat → Int32} {x : Int32} (h : sok S) (hx : vp_in x 38) : vp_in (S x.toNatClampNeg) 47 := by
  obtain ⟨j, hj, rfl⟩ := vp_in_of hx (by decide)
  rw [nI_clamp (by omega)]
  exact h j hj
theorem mch_sok {S K : Nat → Int32} {x : Int32} (i : Int32) (h : sok S) (hx : vp_in x 38) : sok (mch S K tfO x i).1 := by
  unfold mch
  refine sok_upd h ?_
  split
  · exact tfO_in (sok_at h hx)
  · exact nxo_in (sok_at h hx)
/-- what a coded bit keeps -/
def mwg (bg : Int32) (n : Nat) (q : Int32 × Int32 × Int32 × Int32 × (Nat → Int32) × (Nat → Int32) × List Int32) : Prop :=
  sok q.2.2.2.2.1 ∧ (q.2.1 = 0 ∨ ¬ nI q.2.2.2.2.2.2.length ≤ bg) ∧ mwr q.2.2.2.1 ∧ mww q.2.2.1 ∧ n ≤ q.2.2.2.2.2.2.length ∧ q.2.2.2.2.2.2.length ≤ n + 3
theorem mwe_ok {S K : Nat → Int32} {bg lo cd wd rm x i : Int32} {L : List Int32} (hS : sok S) (hx : vp_in x 38) (hc : cd = 0 ∨ ¬ nI L.length ≤ bg) (hr : mwr rm) (hw : wdk 15 wd) : mwg bg L.length (mwe S K bg lo cd wd rm L x i) := by
  obtain ⟨r, rfl, h1, h2⟩ := hr
  obtain ⟨j, h3, h4, h5⟩ := mdb_rng 15 wd 0
  have h3' : mdb 15 wd 0 = nI j := h3
  obtain ⟨r', g1, g2, g3, g4, g5, g6, g7⟩ := mwl_ok 15 j r bg lo cd L (by omega) h1 h2
  have hw2 := mww_shl hw
  unfold mwe mwf mwg
  dsimp only
  refine ⟨mch_sok i hS hx, ?_, ?_, hw2, ?_, ?_⟩
  · rw [h3']
    rcases g7 with g | g
    · exact Or.inl g
    · rw [g.1, g.2]; exact hc
  · rw [h3']; exact ⟨r', g1, g2, g3⟩
  · rw [h3']; exact g5
  · rw [h3']
    rcases g6 with g | g <;> omega
theorem mwc_ok {S K : Nat → Int32} {bg lo cd wd rm x b : Int32} {L : List Int32} (hS : sok S) (hx : vp_in x 38) (hc : cd = 0 ∨ ¬ nI L.length ≤ bg) (hr : mwr rm) (hw : mww wd) : mwg bg L.length (mwc S K bg lo cd wd rm L x b) := by
  have hs := sok_at hS hx
  unfold mwc
  split
  · split
    · split
      · exact mwe_ok hS hx (mkc_hl _ _ _ _) hr (mww_sub hw hs)
      · exact mwe_ok hS hx hc hr (mpt_wdk hs)
    · rename_i h
      refine ⟨hS, mkc_hl _ _ _ _, hr, ?_, Nat.le_refl _, by dsimp only; omega⟩
      obtain ⟨w, rfl, h1, h2⟩ := hw
      obtain ⟨p, e, h3, h4⟩ := tfP_rng hs
      dsimp only
      rw [mpt, e, nI_sub (by omega)] at h ⊢
      refine ⟨w - p, rfl, ?_, by omega⟩
      rcases Nat.lt_or_ge (w - p) 32768 with q | q
      · exact absurd (show nI (w - p) < nI 32768 from (nI_ltI (by omega) (by decide)).mpr q) h
      · exact q
  · split
    · exact mwe_ok hS hx hc hr (mpt_wdk hs)
    · exact mwe_ok hS hx (mkc_hl _ _ _ _) hr (mww_sub hw hs)
theorem mr2_ok {b : Int32} {L : List Int32} {r : Nat} (h1 : 1 ≤ r) (h2 : r ≤ 8) : (∃ q : Nat, (mr2 (nI r) L b).1 = nI q ∧ q ≤ 8) ∧ (mr2 (nI r) L b).2.length = L.length := by
  unfold mr2
  exact ⟨⟨r - 1, nI_sub h1, by omega⟩, rs_len _ _⟩
theorem mrw_ok {bg rm b : Int32} {L : List Int32} (h : ∃ r : Nat, rm = nI r ∧ r ≤ 8) (hn : rm = 0 ∨ 0 < L.length) : (∃ r : Nat, (mrw bg rm L b).1 = nI r ∧ r ≤ 8) ∧ 0 < (mrw bg rm L b).2.length ∧ L.length ≤ (mrw bg rm L b).2.length ∧ (mrw bg rm L b).2.length ≤ L.length + 1 := by
  obtain ⟨r, rfl, h1⟩ := h
  have e8 := fun (r : Nat) (h1 : 1 ≤ r) (h2 : r ≤ 8) => mr2_ok (b := b) (L := L ++ [0]) h1 h2
  have ea : (L ++ [(0 : Int32)]).length = L.length + 1 := len_app1
  unfold mrw
  split
  · split
    · have h9 := e8 8 (by omega) (by omega)
      exact ⟨h9.1, by have := h9.2; show 0 < (mr2 8 (L ++ [0]) b).2.length; rw [show (mr2 8 (L ++ [0]) b).2.length = (L ++ [(0 : Int32)]).length from h9.2]; omega, by rw [show (mr2 8 (L ++ [0]) b).2.length = (L ++ [(0 : Int32)]).length from h9.2]; omega, by rw [show (mr2 8 (L ++ [0]) b).2.length = (L ++ [(0 : Int32)]).length from h9.2]; omega⟩
    · split
      · have h9 := e8 7 (by omega) (by omega)
        exact ⟨h9.1, by rw [show (mr2 7 (L ++ [0]) b).2.length = (L ++ [(0 : Int32)]).length from h9.2]; omega, by rw [show (mr2 7 (L ++ [0]) b).2.length = (L ++ [(0 : Int32)]).length from h9.2]; omega, by rw [show (mr2 7 (L ++ [0]) b).2.length = (L ++ [(0 : Int32)]).length from h9.2]; omega⟩
      · have h9 := e8 8 (by omega) (by omega)
        exact ⟨h9.1, by rw [show (mr2 8 (L ++ [0]) b).2.length = (L ++ [(0 : Int32)]).length from h9.2]; omega, by rw [show (mr2 8 (L ++ [0]) b).2.length = (L ++ [(0 : Int32)]).length from h9.2]; omega, by rw [show (mr2 8 (L ++ [0]) b).2.length = (L ++ [(0 : Int32)]).length from h9.2]; omega⟩
  · rename_i h0
    have hr : 1 ≤ r := by
      rcases Nat.eq_zero_or_pos r with q | q
      · subst q; exact absurd rfl h0
      · exact q
    have h9 := mr2_ok (b := b) (L := L) hr h1
    have hn2 := hn.resolve_left h0
    exact ⟨h9.1, by rw [h9.2]; exact hn2, by rw [h9.2]; omega, by rw [h9.2]; omega⟩
def mbit (w : Int64) (t : Nat) : Int32 := ((w >>> ((nI t).toInt64 &&& 63)) &&& 1).toInt32
def mwq : Nat → Int32 → Int32 → Int32 → Int64 → Int32 → Int32 → Int32 → Int32 → (Nat → Int32) → (Nat → Int32) → List Int32 → Int32 × Int32 × Int32 × Int32 × (Nat → Int32) × (Nat → Int32) × List Int32
  | 0, _, _, _, _, lo, cd, wd, rm, S, K, L => (lo, cd, wd, rm, S, K, L)
  | t + 1, rw, bg, x, w, lo, cd, wd, rm, S, K, L =>
    if rw = 0 then mwq t rw bg x w (mwc S K bg lo cd wd rm L x (mbit w t)).1 (mwc S K bg lo cd wd rm L x (mbit w t)).2.1 (mwc S K bg lo cd wd rm L x (mbit w t)).2.2.1 (mwc S K bg lo cd wd rm L x (mbit w t)).2.2.2.1 (mwc S K bg lo cd wd rm L x (mbit w t)).2.2.2.2.1 (mwc S K bg lo cd wd rm L x (mbit w t)).2.2.2.2.2.1 (mwc S K bg lo cd wd rm L x (mbit w t)).2.2.2.2.2.2
    else mwq t rw bg x w lo cd wd (mrw bg rm L (mbit w t)).1 S K (mrw bg rm L (mbit w t)).2
def mbd (rw x n : Int32) : Int32 := if (if rw = 0 then mot x 0 18 else if x = -1 then 0 else 1) = 0 then (if mot n 1 64 = 0 then 0 else 1) else 1
def mwx (op rw x n sz : Int32) : Int32 := mth (if op = 0 then 1 else 0) (mbd rw x n) (if sz ≤ 65000 then 0 else 1)
def mwt (op rw x n sz bg : Int32) (w : Int64) (lo cd wd rm : Int32) (S K : Nat → Int32) (L : List Int32) : Int32 × Int32 × Int32 × Int32 × (Nat → Int32) × (Nat → Int32) × List Int32 :=
  if mwx op rw x n sz ≤ 0 then mwq n.toNatClampNeg rw bg x w lo cd wd rm S K L else (lo, cd, wd, rm, S, K, L)
theorem ctx_in {x : Int32} (h : mot x 0 18 = 0) : vp_in x 38 := by
  have h1 := mix_in (x := 0) h
  rwa [mix, if_pos rfl] at h1
theorem ctx_in2 {x : Int32} (h : mot x 0 18 = 0) : vp_in (19 + x) 38 := by
  have h1 := mix_in (x := 1) h
  rwa [mix, if_neg (by decide)] at h1
/-! the reader -/
theorem mrl_ok (t : Nat) : ∀ (j s : Nat) (L : List Int32) (pl lm : Int32) (av : Int64) (le la nx : Int32), j < 65536 → 32768 ≤ j * 2 ^ t → nxk (t + s) nx → mww (mrl t L pl lm (nI j) av le la nx).1 ∧ nxk s (mrl t L pl lm (nI j) av le la nx).2.2.2.2 := by
  induction t with
  | zero =>
    intro j s L pl lm av le la nx h1 h2 h3
    exact ⟨⟨j, rfl, by omega, h1⟩, nxk_m h3 (by omega)⟩
  | succ t ih =>
    intro j s L pl lm av le la nx h1 h2 h3
    rw [mrl]
    by_cases c : j < 32768
    · rw [if_neg (show ¬ (32768 : Int32) ≤ nI j from w_lt c), nI_add]
      have e : j * 2 ^ (t + 1) = (j + j) * 2 ^ t := by rw [Nat.pow_succ, Nat.add_mul, Nat.mul_comm (2 ^ t) 2, ← Nat.mul_assoc, Nat.mul_comm j 2, Nat.mul_assoc, Nat.two_mul]
      rw [e] at h2
      have h4 : nxk (t + s + 1) nx := nxk_m h3 (by omega)
      split
      · exact ih (j + j) s L pl lm _ _ _ _ (by omega) h2 (nxk_ci h4 _ _ _ _)
      · exact ih (j + j) s L pl lm _ _ _ _ (by omega) h2 (nxk_m h4 (by omega))
    · rw [if_pos (show (32768 : Int32) ≤ nI j from w_le (by omega) (by omega))]
      exact ⟨⟨j, rfl, by omega, h1⟩, nxk_m h3 (by omega)⟩
def mrg8 (s : Nat) (q : Int32 × Int32 × Int64 × Int32 × Int32 × Int32 × (Nat → Int32) × (Nat → Int32)) : Prop := mww q.2.1 ∧ nxk s q.2.2.2.2.2.1 ∧ sok q.2.2.2.2.2.2.1
theorem mre_ok {S K : Nat → Int32} {L : List Int32} {pl lm sp : Int32} {av : Int64} {le la nx x i : Int32} {s : Nat} (hS : sok S) (hx : vp_in x 38) (hw : wdk 15 sp) (hn : nxk (15 + s) nx) : mrg8 s (mre S K L pl lm sp av le la nx x i) := by
  obtain ⟨j, rfl, h1, h2⟩ := hw
  have h3 := mrl_ok 15 j s L pl lm av le la nx h1 h2 hn
  exact ⟨h3.1, h3.2, mch_sok i hS hx⟩
theorem mrc_ok {S K : Nat → Int32} {L : List Int32} {pl lm sp : Int32} {av : Int64} {le la nx x : Int32} {s : Nat} (hS : sok S) (hx : vp_in x 38) (hw : mww sp) (hn : nxk (15 + s) nx) : mrg8 s (mrc S K L pl lm sp av le la nx x) := by
  have hs := sok_at hS hx
  unfold mrc
  split
  · split
    · split
      · exact mre_ok hS hx (mww_sub hw hs) hn
      · exact mre_ok hS hx (mww_sub hw hs) hn
    · rename_i h
      refine ⟨?_, nxk_m hn (by omega), hS⟩
      obtain ⟨w, rfl, h1, h2⟩ := hw
      obtain ⟨p, e, h3, h4⟩ := tfP_rng hs
      dsimp only
      rw [mpt, e, nI_sub (by omega)] at h ⊢
      refine ⟨w - p, rfl, ?_, by omega⟩
      rcases Nat.lt_or_ge (w - p) 32768 with q | q
      · exact absurd (show nI (w - p) < nI 32768 from (nI_ltI (by omega) (by decide)).mpr q) h
      · exact q
  · split
    · exact mre_ok hS hx (mpt_wdk hs) hn
    · exact mre_ok hS hx (mpt_wdk hs) hn
theorem mrr_ok {L : List Int32} {pl lm nx la le : Int32} {s : Nat} (hn : nxk (s + 1) nx) : nxk s (mrr L pl lm nx la le).2.2.2 := by
  unfold mrr mr4
  repeat' split
  all_goals first | exact nxk_s hn | exact nxk_m hn (by omega)
def mbq : Nat → Int32 → List Int32 → Int32 → Int32 → Int32 → Int64 → Int32 → Int64 → Int32 → Int32 → Int32 → (Nat → Int32) → (Nat → Int32) → Int64 × Int32 × Int64 × Int32 × Int32 × Int32 × (Nat → Int32) × (Nat → Int32)
  | 0, _, _, _, _, _, c, sp, av, le, la, nx, S, K => (c, sp, av, le, la, nx, S, K)
  | t + 1, rr, L, pl, lm, x, c, sp, av, le, la, nx, S, K =>
    if rr = 0 then mbq t rr L pl lm x ((c <<< ((1 : Int32).toInt64 &&& 63)) ||| (mrc S K L pl lm sp av le la nx (19 + x)).1.toInt64) (mrc S K L pl lm sp av le la nx (19 + x)).2.1 (mrc S K L pl lm sp av le la nx (19 + x)).2.2.1 (mrc S K L pl lm sp av le la nx (19 + x)).2.2.2.1 (mrc S K L pl lm sp av le la nx (19 + x)).2.2.2.2.1 (mrc S K L pl lm sp av le la nx (19 + x)).2.2.2.2.2.1 (mrc S K L pl lm sp av le la nx (19 + x)).2.2.2.2.2.2.1 (mrc S K L pl lm sp av le la nx (19 + x)).2.2.2.2.2.2.2
    else mbq t rr L pl lm x ((c <<< ((1 : Int32).toInt64 &&& 63)) ||| (mrr L pl lm nx la le).1.toInt64) sp av (mrr L pl lm nx la le).2.1 (mrr L pl lm nx la le).2.2.1 (mrr L pl lm nx la le).2.2.2 S K
def mbx (rg rr x n : Int32) : Int32 := mth (if rg = 0 then 1 else 0) (mbd rr x n) 0
def mbt (rg rr x n : Int32) (L : List Int32) (pl lm sp : Int32) (av : Int64) (le la nx : Int32) (S K : Nat → Int32) : Int64 × Int32 × Int64 × Int32 × Int32 × Int32 × (Nat → Int32) × (Nat → Int32) :=
  if mbx rg rr x n ≤ 0 then mbq n.toNatClampNeg rr L pl lm x 0 sp av le la nx S K else (0, sp, av, le, la, nx, S, K)

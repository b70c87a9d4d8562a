def mwm (n rm : Int32) : Int32 := if rm ≤ n then rm else n
def mwl : Nat → Int32 → Int32 → Int32 → Int32 → Int32 → List Int32 → Int32 × Int32 × Int32 × List Int32
  | 0, _, _, lo, cd, rm, L => (lo, cd, rm, L)
  | t + 1, n, bg, lo, cd, rm, L => if n ≤ 0 then (lo, cd, rm, L) else if rm - mwm n rm = 0 then mwl t (n - mwm n rm) bg (mbo bg (lo <<< (mwm n rm &&& 31)) cd L).1 0 (mbo bg (lo <<< (mwm n rm &&& 31)) cd L).2.1 (mbo bg (lo <<< (mwm n rm &&& 31)) cd L).2.2 else mwl t (n - mwm n rm) bg (lo <<< (mwm n rm &&& 31)) cd (rm - mwm n rm) L
def mwf (q : Int32 × Int32 × Int32 × List Int32) (wd : Int32) (S K : Nat → Int32) : Int32 × Int32 × Int32 × Int32 × (Nat → Int32) × (Nat → Int32) × List Int32 := (q.1, q.2.1, wd, q.2.2.1, S, K, q.2.2.2)
def mwe (S K : Nat → Int32) (bg lo cd wd rm : Int32) (L : List Int32) (x i : Int32) : Int32 × Int32 × Int32 × Int32 × (Nat → Int32) × (Nat → Int32) × List Int32 :=
  mwf (mwl 15 (mdb 15 wd 0) bg lo cd rm L) (wd <<< (mdb 15 wd 0 &&& 31)) (mch S K tfO x i).1 (mch S K tfO x i).2
def mwk (bg lo cd rm p : Int32) (L : List Int32) : Int32 := mkc L bg rm (lo + mcy cd rm + p)
def mwo (bg lo cd rm p : Int32) (L : List Int32) : Int32 := (lo + mcy cd rm + p) - mcy (mwk bg lo cd rm p L) rm
def mpt (S : Nat → Int32) (x : Int32) : Int32 := tfP (S x.toNatClampNeg).toNatClampNeg
def mwc (S K : Nat → Int32) (bg lo cd wd rm : Int32) (L : List Int32) (x b : Int32) : Int32 × Int32 × Int32 × Int32 × (Nat → Int32) × (Nat → Int32) × List Int32 :=
  if b = K x.toNatClampNeg then
    (if wd - mpt S x < 32768 then
      (if mpt S x ≤ wd - mpt S x then mwe S K bg (mwo bg lo cd rm (mpt S x) L) (mwk bg lo cd rm (mpt S x) L) (wd - mpt S x) rm L x 1 else mwe S K bg lo cd (mpt S x) rm L x 1)
     else (mwo bg lo cd rm (mpt S x) L, mwk bg lo cd rm (mpt S x) L, wd - mpt S x, rm, S, K, L))
  else (if mpt S x ≤ wd - mpt S x then mwe S K bg lo cd (mpt S x) rm L x 0 else mwe S K bg (mwo bg lo cd rm (mpt S x) L) (mwk bg lo cd rm (mpt S x) L) (wd - mpt S x) rm L x 0)
theorem tfP_rng {x : Int32} (h : vp_in x 47) : ∃ p : Nat, tfP x.toNatClampNeg = nI p ∧ 1 ≤ p ∧ p ≤ 22017 := by
  obtain ⟨j, hj, rfl⟩ := vp_in_of h (by decide)
  rw [nI_clamp (by omega)]
  have h1 : ∀ j, j < 47 → 1 ≤ (tfP j).toInt ∧ (tfP j).toInt ≤ 22017 := by decide +kernel
  have h2 := h1 j hj
  obtain ⟨p, hp, e⟩ := nI_of (x := tfP j) (fun q => by
    have q1 := Int32.lt_iff_toInt_lt.mp q
    have e0 : (0 : Int32).toInt = 0 := rfl
    omega)
  rw [e, nI_toInt hp] at h2
  exact ⟨p, e, by omega, by omega⟩
def mwr (rm : Int32) : Prop := ∃ r : Nat, rm = nI r ∧ 1 ≤ r ∧ r ≤ 12
def mww (wd : Int32) : Prop := ∃ w : Nat, wd = nI w ∧ 32768 ≤ w ∧ w < 65536
theorem nI_sub {a b : Nat} (h : b ≤ a) : nI a - nI b = nI (a - b) := by
  have e : a = (a - b) + b := by omega
  generalize a - b = d at e
  subst e
  rw [← nI_add]
  exact Int32.add_sub_cancel _ _
theorem mww_sub {wd x : Int32} {S : Nat → Int32} (h : mww wd) (hs : vp_in (S x.toNatClampNeg) 47) : wdk 15 (wd - mpt S x) := by
  obtain ⟨w, rfl, h1, h2⟩ := h
  obtain ⟨p, e, h3, h4⟩ := tfP_rng hs
  rw [mpt, e, nI_sub (by omega)]
  exact wdk_15 (by omega) (by omega)
theorem mpt_wdk {x : Int32} {S : Nat → Int32} (hs : vp_in (S x.toNatClampNeg) 47) : wdk 15 (mpt S x) := by
  obtain ⟨p, e, h3, h4⟩ := tfP_rng hs
  rw [mpt, e]
  exact wdk_15 (by omega) (by omega)
theorem mdb_rng : ∀ (t : Nat) (w : Int32) (j : Nat), ∃ i : Nat, mdb t w (nI j) = nI i ∧ j ≤ i ∧ i ≤ j + t := by
  intro t
  induction t with
  | zero => intro w j; exact ⟨j, rfl, by omega, by omega⟩
  | succ t ih =>
    intro w j
    rw [mdb]
    split
    · exact ⟨j, rfl, by omega, by omega⟩
    · rw [nI_1]
      obtain ⟨i, h1, h2, h3⟩ := ih (w + w) (j + 1)
      exact ⟨i, h1, by omega, by omega⟩
theorem mkc_hl (L : List Int32) (bg rm x : Int32) : mkc L bg rm x = 0 ∨ ¬ nI L.length ≤ bg := by
  unfold mkc mtk
  by_cases h : nI L.length ≤ bg
  · rw [if_pos h]; exact Or.inl rfl
  · exact Or.inr h
theorem mb3_len (lo rm : Int32) (L : List Int32) : (mb3 lo rm L).2.2.length = L.length + 1 := by rw [mb3]; exact len_app1
theorem mb2_len (bg lo : Int32) (L : List Int32) : (mb2 bg lo L).2.2.length = L.length + 1 := by
  unfold mb2
  repeat' split
  all_goals exact mb3_len _ _ _
theorem mbo_len (bg lo cd : Int32) (L : List Int32) : (mbo bg lo cd L).2.2.length = L.length + 1 := by
  unfold mbo
  split
  · exact mb2_len _ _ _
  · rw [mb2_len, rs_len]
theorem mb2_rm (bg lo : Int32) (L : List Int32) : (mb2 bg lo L).2.1 = 7 ∨ (mb2 bg lo L).2.1 = 8 := by
  unfold mb2
  repeat' split
  · exact Or.inr rfl
  · exact Or.inl rfl
  · exact Or.inr rfl
theorem mbo_rm (bg lo cd : Int32) (L : List Int32) : (mbo bg lo cd L).2.1 = 7 ∨ (mbo bg lo cd L).2.1 = 8 := by
  unfold mbo
  split
  · exact mb2_rm _ _ _
  · exact mb2_rm _ _ _
theorem mbo_mwr (bg lo cd : Int32) (L : List Int32) : mwr (mbo bg lo cd L).2.1 := by
  rcases mbo_rm bg lo cd L with h | h
  · exact ⟨7, h, by omega, by omega⟩
  · exact ⟨8, h, by omega, by omega⟩
/-- n more doublings, at most t, and the bytes have room for them -/
def mwn (t : Nat) (n : Int32) (L : List Int32) : Prop := ∃ j : Nat, n = nI j ∧ j ≤ t ∧ L.length + j ≤ 65536
theorem mwn_0 {n : Int32} {L : List Int32} (h : mwn 0 n L) : n ≤ 0 := by
  obtain ⟨j, rfl, h1, h2⟩ := h
  obtain rfl : j = 0 := by omega
  decide
theorem mwn_lt {t : Nat} {n : Int32} {L : List Int32} (h : mwn t n L) (c : ¬ n ≤ 0) : L.length < 65536 := by
  obtain ⟨j, rfl, h1, h2⟩ := h
  rcases Nat.eq_zero_or_pos j with q | q
  · subst q; exact absurd (by decide) c
  · omega
theorem mwm_ok {t : Nat} {n rm : Int32} {L : List Int32} (h : mwn t n L) (hr : mwr rm) (c : ¬ n ≤ 0) : ∃ j r m : Nat, n = nI j ∧ rm = nI r ∧ mwm n rm = nI m ∧ 1 ≤ m ∧ m ≤ j ∧ m ≤ r ∧ j ≤ t ∧ r ≤ 12 ∧ L.length + j ≤ 65536 := by
  obtain ⟨j, rfl, h1, h2⟩ := h
  obtain ⟨r, rfl, h3, h4⟩ := hr
  have hj : 1 ≤ j := by
    rcases Nat.eq_zero_or_pos j with q | q
    · subst q; exact absurd (by decide) c
    · exact q
  unfold mwm
  by_cases q : nI r ≤ nI j
  · have q1 := (nI_leI (by omega) (by omega)).mp q
    exact ⟨j, r, r, rfl, rfl, if_pos q, h3, q1, Nat.le_refl _, h1, h4, h2⟩
  · have q1 : ¬ r ≤ j := fun q2 => q (nI_le q2 (by omega))
    exact ⟨j, r, j, rfl, rfl, if_neg q, hj, Nat.le_refl _, by omega, h1, h4, h2⟩
theorem mwn_s {t : Nat} {n rm : Int32} {L M : List Int32} (h : mwn (t + 1) n L) (hr : mwr rm) (c : ¬ n ≤ 0) (hM : M.length ≤ L.length + 1) : mwn t (n - mwm n rm) M := by
  obtain ⟨j, r, m, rfl, rfl, e, h1, h2, h3, h4, h5, h6⟩ := mwm_ok h hr c
  rw [e, nI_sub h2]
  exact ⟨j - m, rfl, by omega, by omega⟩
theorem mwr_s {t : Nat} {n rm : Int32} {L : List Int32} (h : mwn t n L) (hr : mwr rm) (c : ¬ n ≤ 0) (c2 : ¬ rm - mwm n rm = 0) : mwr (rm - mwm n rm) := by
  obtain ⟨j, r, m, rfl, rfl, e, h1, h2, h3, h4, h5, h6⟩ := mwm_ok h hr c
  rw [e, nI_sub h3] at c2 ⊢
  refine ⟨r - m, rfl, ?_, by omega⟩
  rcases Nat.eq_zero_or_pos (r - m) with q | q
  · rw [q] at c2; exact absurd rfl c2
  · exact q
theorem mwn_15 {wd : Int32} {L : List Int32} (h : L.length + 15 ≤ 65536) : mwn 15 (mdb 15 wd 0) L := by
  obtain ⟨i, e, h1, h2⟩ := mdb_rng 15 wd 0
  exact ⟨i, e, by omega, by omega⟩
/-! the reader -/
def mrl : Nat → List Int32 → Int32 → Int32 → Int32 → Int64 → Int32 → Int32 → Int32 → Int32 × Int64 × Int32 × Int32 × Int32
  | 0, _, _, _, sp, av, le, la, nx => (sp, av, le, la, nx)
  | t + 1, L, pl, lm, sp, av, le, la, nx => if 32768 ≤ sp then (sp, av, le, la, nx) else
      if le = 0 then mrl t L pl lm (sp + sp) (mrd (sp + sp) (2 * (mrd sp (av - (mci L pl lm nx la).1.toInt64)) + 1)) ((mci L pl lm nx la).2.1 - 1) (mci L pl lm nx la).2.2.1 (mci L pl lm nx la).2.2.2
      else mrl t L pl lm (sp + sp) (mrd (sp + sp) (2 * av + 1)) (le - 1) la nx
def mre (S K : Nat → Int32) (L : List Int32) (pl lm sp : Int32) (av : Int64) (le la nx x i : Int32) : Int32 × Int32 × Int64 × Int32 × Int32 × Int32 × (Nat → Int32) × (Nat → Int32) :=
  (if i = 0 then 1 - K x.toNatClampNeg else K x.toNatClampNeg, (mrl 15 L pl lm sp av le la nx).1, (mrl 15 L pl lm sp av le la nx).2.1, (mrl 15 L pl lm sp av le la nx).2.2.1, (mrl 15 L pl lm sp av le la nx).2.2.2.1, (mrl 15 L pl lm sp av le la nx).2.2.2.2, (mch S K tfO x i).1, (mch S K tfO x i).2)
def mrc (S K : Nat → Int32) (L : List Int32) (pl lm sp : Int32) (av : Int64) (le la nx x : Int32) : Int32 × Int32 × Int64 × Int32 × Int32 × Int32 × (Nat → Int32) × (Nat → Int32) :=
  if lg_cmp av ((sp - mpt S x).toInt64 <<< ((16 : Int32).toInt64 &&& 63)) < 0 then
    (if sp - mpt S x < 32768 then (if mpt S x ≤ sp - mpt S x then mre S K L pl lm (sp - mpt S x) av le la nx x 1 else mre S K L pl lm (sp - mpt S x) av le la nx x 0)
     else (K x.toNatClampNeg, sp - mpt S x, av, le, la, nx, S, K))
  else (if mpt S x ≤ sp - mpt S x then mre S K L pl lm (mpt S x) (av - ((sp - mpt S x).toInt64 <<< ((16 : Int32).toInt64 &&& 63))) le la nx x 0
        else mre S K L pl lm (mpt S x) (av - ((sp - mpt S x).toInt64 <<< ((16 : Int32).toInt64 &&& 63))) le la nx x 1)
/-- nx counts, and t more don't overflow it -/
def nxk (t : Nat) (nx : Int32) : Prop := ∃ j : Nat, nx = nI j ∧ j + t < 2147483648
theorem nxk_n {t : Nat} {nx : Int32} (h : nxk t nx) : ¬ nx < 0 := by
  obtain ⟨j, rfl, h1⟩ := h
  exact nI_pos (by omega)
theorem nxk_s {t : Nat} {nx : Int32} (h : nxk (t + 1) nx) : nxk t (nx + 1) := by
  obtain ⟨j, rfl, h1⟩ := h
  exact ⟨j + 1, nI_1 j, by omega⟩
theorem nxk_m {s t : Nat} {nx : Int32} (h : nxk t nx) (hs : s ≤ t) : nxk s nx := by
  obtain ⟨j, rfl, h1⟩ := h
  exact ⟨j, rfl, by omega⟩
theorem nxk_ci {t : Nat} {nx : Int32} (h : nxk (t + 1) nx) (L : List Int32) (pl lm la : Int32) : nxk t (mci L pl lm nx la).2.2.2 := by
  unfold mci
  repeat' split
  · exact nxk_s h
  · exact nxk_m h (by omega)
  · exact nxk_s h

theorem mtb_0 {a b c : Int32} (h : mtb a b c = 0) : mth a b c ≤ 0 := by
  unfold mtb at h
  split at h
  · assumption
  · exact absurd h (by decide)
theorem mtb_n {a b c : Int32} (h : ¬ mtb a b c = 0) : ¬ mth a b c ≤ 0 := fun q => h (by rw [mtb, if_pos q])
theorem mth_1 (a b : Int32) : ¬ mth a b 1 ≤ 0 := by
  unfold mth
  repeat' split
  all_goals first | decide | (rename_i h; exact absurd h (by decide))
theorem mth_0 {a b c : Int32} (h : mth a b c ≤ 0) : a = 0 ∧ b = 0 ∧ c = 0 := by
  unfold mth at h
  split at h
  · split at h
    · split at h
      · exact ⟨by assumption, by assumption, by assumption⟩
      · exact absurd h (by decide)
    · exact absurd h (by decide)
  · exact absurd h (by decide)
theorem m_lt {f : Nat → Int32} {u : Int32} {L : List Int32} (h : row_ok 65536 f u L) (c : ¬ u = 65536) : L.length < 65536 := by
  have hl := row_len h
  rcases Nat.lt_or_ge L.length 65536 with q | q
  · exact q
  · exact absurd (by rw [h.1, show L.length = 65536 by omega]; rfl) c
theorem mot_0 {v x y : Int32} (h : mot v x y = 0) : ¬ v < x ∧ v ≤ y := by
  unfold mot at h
  split at h
  · exact absurd h (by decide)
  · split at h
    · exact ⟨by assumption, by assumption⟩
    · exact absurd h (by decide)
theorem mot_n {v x y : Int32} (h : ¬ mot v x y = 0) : mot v x y = 1 := (mot_01 v x y).resolve_left h
def mz (b : Prop) [Decidable b] : Int32 := if b then 1 else 0
def mpc (b op sz : Int32) : Int32 := mth (mot b 0 255) op (if sz = 65536 then 1 else 0)
def mac (x sz : Int32) : Int32 := mth (mot x (-1) (sz - 1)) 0 0
def mxc (y z v : Int32) : Int32 := mth (if mot y 0 18 = 0 then (if mot z 0 46 = 0 then (if mot v 0 1 = 0 then 0 else 1) else 1) else 1) 0 0
def msc (y : Int32) : Int32 := mth (mot y 0 18) 0 0
def mix (x y : Int32) : Int32 := if x = 0 then y else 19 + y
theorem mix_in {x y : Int32} (h : mot y 0 18 = 0) : vp_in (mix x y) 38 := by
  obtain ⟨h1, h2⟩ := mot_0 h
  obtain ⟨j, hj, rfl⟩ := nI_of2 (M := 18) (n := 18) rfl h1 h2
  unfold mix
  split
  · exact vp_in_nI (by omega) (by decide)
  · rw [show (19 : Int32) = nI 19 from rfl, nI_add]; exact vp_in_nI (by omega) (by decide)
theorem m_atin {f : Nat → Int32} {u x : Int32} {L : List Int32} (h : row_ok 65536 f u L) (h1 : mot x (-1) (u - 1) = 0) (h2 : 0 ≤ x) : ¬ x < 0 ∧ ¬ u ≤ x ∧ ¬ nI 65536 ≤ x := by
  have hl := row_len h
  obtain ⟨-, h3⟩ := mot_0 h1
  have h0 : ¬ x < 0 := Int32.not_lt.mpr h2
  obtain ⟨j, hj, rfl⟩ := nI_of h0
  have hu := h.1
  subst hu
  have h4 := Int32.le_iff_toInt_le.mp h3
  rcases Nat.eq_zero_or_pos L.length with q | q
  · rw [q] at h4
    rw [nI_toInt hj, show (nI 0 - 1 : Int32).toInt = -1 from rfl] at h4
    omega
  · obtain ⟨r, hr⟩ : ∃ r, L.length = r + 1 := ⟨L.length - 1, by omega⟩
    rw [hr, nI_pred, nI_toInt hj, nI_toInt (by omega)] at h4
    refine ⟨h0, ?_, ?_⟩
    · exact nI_ge (by omega) (by omega)
    · exact nI_ge (by omega) (by decide)
def mrg (x op rw rg rr lo cd wd rm nx lm sp : Int32) : Int32 :=
  if op = 0 then mrg2 x rg rr nx lm sp else if x < 0 then mrg2 x rg rr nx lm sp else if 2 < x then mrg2 x rg rr nx lm sp else if x = 2 then rm else if rw = 0 then (if x = 0 then lo + mcy cd rm else wd) else -1
where mrg2 (x rg rr nx lm sp : Int32) : Int32 := if rg = 0 then -1 else if x = 3 then (if lm ≤ nx then lm else nx) else if x = 4 then (if rr = 0 then sp else -1) else -1

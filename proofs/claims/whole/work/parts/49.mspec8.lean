def mcl : Nat → Int32 → Int32 → Int32 → List Int32 → Int32 × List Int32
  | 0, _, _, rm, L => (rm, L)
  | t + 1, bg, i, rm, L => if rm ≤ 0 then (rm, L) else mcl t bg (1 - i) (mrw bg rm L i).1 (mrw bg rm L i).2
def mpu (bg lo cd rm : Int32) (L : List Int32) : Int32 × Int32 × List Int32 := mbo bg (lo <<< (rm &&& 31)) cd L
def mcw : Nat → Int32 → Int32 → Int32 → Int32 → Int32 → List Int32 → Int32 × Int32 × Int32 × List Int32
  | 0, _, _, lo, cd, rm, L => (lo, cd, rm, L)
  | t + 1, bg, n, lo, cd, rm, L => if n ≤ 0 then (lo, cd, rm, L) else mcw t bg (n - (mpu bg lo cd rm L).2.1) (mpu bg lo cd rm L).1 0 (mpu bg lo cd rm L).2.1 (mpu bg lo cd rm L).2.2
def mcv (lo cd wd rm : Int32) : Int32 := if (lo + mcy cd rm) ||| 65535 < (lo + mcy cd rm) + wd then (lo + mcy cd rm) ||| 65535 else ((lo + mcy cd rm) ||| 65535) - 32768
def mck (bg v rm : Int32) (L : List Int32) : Int32 × Int32 := (v - mcy (mkc L bg rm v) rm, mkc L bg rm v)
def mc2 (bg lo cd rm : Int32) (L : List Int32) : Int32 × Int32 × Int32 × List Int32 :=
  ((mpu bg (mpu bg lo cd rm L).1 0 (mpu bg lo cd rm L).2.1 (mpu bg lo cd rm L).2.2).1, 0, (mpu bg (mpu bg lo cd rm L).1 0 (mpu bg lo cd rm L).2.1 (mpu bg lo cd rm L).2.2).2.1, (mpu bg (mpu bg lo cd rm L).1 0 (mpu bg lo cd rm L).2.1 (mpu bg lo cd rm L).2.2).2.2)
def mc0 (bg lo cd wd rm : Int32) (L : List Int32) : Int32 × Int32 × Int32 × List Int32 := mc2 bg (mck bg (mcv lo cd wd rm) rm L).1 (mck bg (mcv lo cd wd rm) rm L).2 rm L
def mcD (L : List Int32) (bg : Int32) : List Int32 := if nI L.length ≤ bg then L else if mlast L = 255 then L.dropLast else L
def mcx (op y : Int32) : Int32 := mth (if op = 0 then 1 else 0) (mot y 0 1) 0
def mcb (rw bg lo cd wd rm : Int32) (L : List Int32) (y : Int32) : Int32 × Int32 × Int32 × List Int32 := if rw = 0 then (if y = 0 then mc0 bg lo cd wd rm L else mcw 2 bg (12 - rm) lo cd rm L) else (lo, cd, (mcl 8 bg 0 rm L).1, (mcl 8 bg 0 rm L).2)
def mwu (rw bg cd rm : Int32) (L : List Int32) : Prop := (rw = 0 → (cd = 0 ∨ ¬ nI L.length ≤ bg) ∧ mwr rm) ∧ (¬ rw = 0 → (∃ r : Nat, rm = nI r ∧ r ≤ 8) ∧ (rm = 0 ∨ 0 < L.length))
theorem m_drop {f : Nat → Int32} {u bg : Int32} {L : List Int32} (h : row_ok 65536 f u L) (hb : ¬ bg < 0) (c : ¬ u ≤ bg) : row_ok 65536 f (u - 1) L.dropLast :=
  row_drop h (fun q => c (Int32.le_trans q (Int32.not_lt.mp hb)))
def mrk (t : Nat) (rm : Int32) : Prop := ∃ r : Nat, rm = nI r ∧ r ≤ t
theorem mrk_0 {rm : Int32} (h : mrk 0 rm) : rm ≤ 0 := by
  obtain ⟨r, rfl, h1⟩ := h
  obtain rfl : r = 0 := by omega
  decide
theorem mrw_s {t : Nat} {bg rm b : Int32} {L : List Int32} (h : mrk (t + 1) rm) (c : ¬ rm ≤ 0) (ht : t + 1 ≤ 8) (hn : rm = 0 ∨ 0 < L.length) : mrk t (mrw bg rm L b).1 ∧ 0 < (mrw bg rm L b).2.length ∧ ¬ rm = 0 := by
  have c0 : ¬ rm = 0 := fun q => c (by rw [q]; decide)
  obtain ⟨r, rfl, h1⟩ := h
  have hr : 1 ≤ r := by
    rcases Nat.eq_zero_or_pos r with q | q
    · subst q; exact absurd rfl c0
    · exact q
  refine ⟨⟨r - 1, ?_, by omega⟩, (mrw_ok (bg := bg) (b := b) ⟨r, rfl, by omega⟩ hn).2.1, c0⟩
  rw [mrw, if_neg c0, mr2]
  exact nI_sub hr
/-- n more, at most t bytes -/
def mcn (t : Nat) (n : Int32) : Prop := n ≤ 0 ∨ ∃ j : Nat, n = nI j ∧ j ≤ 7 * t
theorem mcn_0 {n : Int32} (h : mcn 0 n) : n ≤ 0 := by
  rcases h with h | ⟨j, rfl, h1⟩
  · exact h
  · obtain rfl : j = 0 := by omega
    decide
theorem le0 {j r : Nat} (h : j ≤ r) (hr : r < 2 ^ 31) : nI j - nI r ≤ 0 := by
  have e : (nI j - nI r).toInt = (j : Int) - r := by
    rw [Int32.toInt_sub, nI_toInt (by omega), nI_toInt hr]
    rw [Int.bmod_def]
    split <;> omega
  exact Int32.le_iff_toInt_le.mpr (by rw [e, show (0 : Int32).toInt = 0 from rfl]; omega)
theorem mcn_s {t : Nat} {n bg lo cd rm : Int32} {L : List Int32} (h : mcn (t + 1) n) (c : ¬ n ≤ 0) : mcn t (n - (mpu bg lo cd rm L).2.1) := by
  rcases h with h | ⟨j, rfl, h1⟩
  · exact absurd h c
  obtain ⟨r, e, h2, h3⟩ : ∃ r : Nat, (mpu bg lo cd rm L).2.1 = nI r ∧ 7 ≤ r ∧ r ≤ 8 := by
    unfold mpu
    rcases mbo_rm bg (lo <<< (rm &&& 31)) cd L with h | h
    · exact ⟨7, h, by omega, by omega⟩
    · exact ⟨8, h, by omega, by omega⟩
  rw [e]
  rcases Nat.lt_or_ge r j with q | q
  · exact Or.inr ⟨j - r, nI_sub (by omega), by omega⟩
  · exact Or.inl (le0 q (by omega))
theorem mcn_i {rm : Int32} (h : mwr rm) : mcn 2 (12 - rm) := by
  obtain ⟨r, rfl, h1, h2⟩ := h
  exact Or.inr ⟨12 - r, (show nI 12 - nI r = nI (12 - r) from nI_sub h2), by omega⟩
def mrt (y v sz : Int32) : Int32 := if y < 0 then 1 else if v < 0 then 1 else if sz < y then 1 else if sz - y < v then 1 else 0
def mrx (op y v sz : Int32) : Int32 := mth op (mrt y v sz) 0
def mrv (L : List Int32) (y v : Int32) : Int32 × Int32 × Int32 × Int32 := mci L y v 1 (spk L y v 0)
def mra (L : List Int32) (y v : Int32) : Int64 := 2147483647 - ((((spk L y v 0).toInt64 <<< ((16 : Int32).toInt64 &&& 63)) + (mrv L y v).1.toInt64) <<< ((7 : Int32).toInt64 &&& 63))
theorem rd_mk {f : Nat → Int32} {sz y v : Int32} {L : List Int32} (h : row_ok 65536 f sz L) (h1 : ¬ y < 0) (h2 : ¬ v < 0) (h3 : ¬ sz < y) (h4 : ¬ sz - y < v) : rdok y v L := by
  have hl := row_len h
  obtain ⟨p, hp, rfl⟩ := nI_of h1
  obtain ⟨q, hq, rfl⟩ := nI_of h2
  have hu := h.1
  subst hu
  have h5 : p ≤ L.length := by
    rcases Nat.lt_or_ge L.length p with r | r
    · exact absurd ((nI_ltI (by omega) hp).mpr r) h3
    · exact r
  rw [nI_sub h5] at h4
  have h6 : q ≤ L.length - p := by
    rcases Nat.lt_or_ge (L.length - p) q with r | r
    · exact absurd ((nI_ltI (by omega) hq).mpr r) h4
    · exact r
  exact ⟨p, q, rfl, rfl, by omega, hl⟩

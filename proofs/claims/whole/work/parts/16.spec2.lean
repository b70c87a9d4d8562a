def bo3 (lo rm : Int32) (n : Nat) (L : List Int32) : Int32 × Int32 × Nat × List Int32 := (lo &&& ((1 <<< ((27 - rm) &&& 31)) - 1), rm, apn n L, app L (jushr lo (27 - rm) &&& 255))
def bo2 (lo v : Int32) (n : Nat) (L : List Int32) : Int32 × Int32 × Nat × List Int32 := if v = 255 then bo3 lo 7 n L else bo3 lo 8 n L
/-- a byte is out -/
def bo (a lo : Int32) (n : Nat) (L : List Int32) : Int32 × Int32 × Nat × List Int32 := if sgl L a = -1 then bo2 lo (sgl L a) n L else if sgl L a = 255 then bo2 lo (sgl L a) n L else if lo < 134217728 then bo2 lo (sgl L a) n L else bo2 (lo - 134217728) (sgl L a + 1) n (sgc L a (sgl L a + 1))
def fb (a lo rm : Int32) (n : Nat) (L : List Int32) : Int32 × Int32 × Nat × List Int32 := bo a (lo <<< (rm &&& 31)) n L
def enl : Nat → Int32 → Int32 → Int32 → Int32 → Nat → List Int32 → Int32 × Int32 × Int32 × Nat × List Int32
  | 0, _, lo, sz, rm, n, L => (lo, sz, rm, n, L)
  | t + 1, a, lo, sz, rm, n, L => if (32768 : Int32) ≤ sz then (lo, sz, rm, n, L) else if rm - 1 = 0 then enl t a (bo a (lo * 2) n L).1 (sz * 2) (bo a (lo * 2) n L).2.1 (bo a (lo * 2) n L).2.2.1 (bo a (lo * 2) n L).2.2.2 else enl t a (lo * 2) (sz * 2) (rm - 1) n L
def aLk (lo sz : Int32) (sf lf : Nat → Int32) (x pt : Int32) : Int32 × Int32 × (Nat → Int32) × (Nat → Int32) := if sz < 32768 then (if pt ≤ sz then (lo + pt, sz, cLk sf lf x) else (lo, pt, cLk sf lf x)) else (lo + pt, sz, sf, lf)
def aOt (lo sz : Int32) (sf lf : Nat → Int32) (x pt : Int32) : Int32 × Int32 × (Nat → Int32) × (Nat → Int32) := if pt ≤ sz then (lo, pt, cOt sf lf x) else (lo + pt, sz, cOt sf lf x)
def wa0 (lo sz : Int32) (sf lf : Nat → Int32) (x bit : Int32) : Int32 × Int32 × (Nat → Int32) × (Nat → Int32) := if bit = ent 19 lf x then aLk lo (sz - prt sf x) sf lf x (prt sf x) else aOt lo (sz - prt sf x) sf lf x (prt sf x)
def wad (a lo sz rm : Int32) (sf lf : Nat → Int32) (n : Nat) (L : List Int32) (x bit : Int32) : Int32 × Int32 × Int32 × (Nat → Int32) × (Nat → Int32) × Nat × List Int32 :=
  ((enl 15 a (wa0 lo sz sf lf x bit).1 (wa0 lo sz sf lf x bit).2.1 rm n L).1, (enl 15 a (wa0 lo sz sf lf x bit).1 (wa0 lo sz sf lf x bit).2.1 rm n L).2.1, (enl 15 a (wa0 lo sz sf lf x bit).1 (wa0 lo sz sf lf x bit).2.1 rm n L).2.2.1, (wa0 lo sz sf lf x bit).2.2.1, (wa0 lo sz sf lf x bit).2.2.2, (enl 15 a (wa0 lo sz sf lf x bit).1 (wa0 lo sz sf lf x bit).2.1 rm n L).2.2.2.1, (enl 15 a (wa0 lo sz sf lf x bit).1 (wa0 lo sz sf lf x bit).2.1 rm n L).2.2.2.2)
def ew0l (lo sz : Int32) : Int32 := if lo + sz ≤ lo ||| 65535 then (lo ||| 65535) - 32768 else lo ||| 65535
def ew0 (a lo sz rm : Int32) (n : Nat) (L : List Int32) : Int32 × Int32 × Nat × List Int32 := fb a (fb a (ew0l lo sz) rm n L).1 (fb a (ew0l lo sz) rm n L).2.1 (fb a (ew0l lo sz) rm n L).2.2.1 (fb a (ew0l lo sz) rm n L).2.2.2
def ew1 : Nat → Int32 → Int32 → Int32 → Int32 → Nat → List Int32 → Int32 × Int32 × Nat × List Int32
  | 0, _, _, lo, rm, n, L => (lo, rm, n, L)
  | t + 1, a, y, lo, rm, n, L => if y ≤ 0 then (lo, rm, n, L) else ew1 t a (y - (fb a lo rm n L).2.1) (fb a lo rm n L).1 (fb a lo rm n L).2.1 (fb a lo rm n L).2.2.1 (fb a lo rm n L).2.2.2
theorem apn_le (n : Nat) (L : List Int32) : n ≤ apn n L := by
  unfold apn
  split
  · exact Nat.le_refl _
  · split <;> omega
theorem bo_le (a lo : Int32) (n : Nat) (L : List Int32) : n ≤ (bo a lo n L).2.2.1 := by
  unfold bo bo2 bo3
  repeat' split
  all_goals exact apn_le _ _
theorem fb_le (a lo rm : Int32) (n : Nat) (L : List Int32) : n ≤ (fb a lo rm n L).2.2.1 := bo_le _ _ _ _
theorem enl_le (t : Nat) : ∀ (a lo sz rm : Int32) (n : Nat) (L : List Int32), n ≤ (enl t a lo sz rm n L).2.2.2.1 := by
  induction t with
  | zero => intro a lo sz rm n L; exact Nat.le_refl _
  | succ t ih =>
    intro a lo sz rm n L
    rw [enl]
    split
    · exact Nat.le_refl _
    · split
      · exact Nat.le_trans (bo_le a (lo * 2) n L) (ih _ _ _ _ _ _)
      · exact ih _ _ _ _ _ _
theorem ew1_le (t : Nat) : ∀ (a y lo rm : Int32) (n : Nat) (L : List Int32), n ≤ (ew1 t a y lo rm n L).2.2.1 := by
  induction t with
  | zero => intro a y lo rm n L; exact Nat.le_refl _
  | succ t ih =>
    intro a y lo rm n L
    rw [ew1]
    split
    · exact Nat.le_refl _
    · exact Nat.le_trans (fb_le a lo rm n L) (ih _ _ _ _ _ _)
theorem i_15 {t : Nat} (h : t < 15) : ¬ (15 : Int32) ≤ nI t := nI_ge h (by decide)
theorem i_12 {t : Nat} (h : t < 12) : ¬ (12 : Int32) ≤ nI t := nI_ge h (by decide)

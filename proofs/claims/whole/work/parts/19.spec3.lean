def ra2 (a rm : Int32) (n : Nat) (L : List Int32) (b : Int32) : Int32 × Nat × List Int32 := (rm - 1, n, sgc L a (sgl L a ||| (b <<< ((rm - 1) &&& 31))))
def rad (a rm : Int32) (n : Nat) (L : List Int32) (b : Int32) : Int32 × Nat × List Int32 := if rm = 0 then (if sgl L a = 255 then ra2 a 7 (apn n L) (app L 0) b else ra2 a 8 (apn n L) (app L 0) b) else ra2 a rm n L b
def rwe : Nat → Int32 → Int32 → Int32 → Nat → List Int32 → Int32 × Nat × List Int32
  | 0, _, _, rm, n, L => (rm, n, L)
  | t + 1, a, i, rm, n, L => rwe t a (i + 1) (rad a rm n L (i &&& 1)).1 (rad a rm n L (i &&& 1)).2.1 (rad a rm n L (i &&& 1)).2.2
theorem rad_le (a rm : Int32) (n : Nat) (L : List Int32) (b : Int32) : n ≤ (rad a rm n L b).2.1 := by
  unfold rad ra2
  repeat' split
  all_goals first | exact apn_le _ _ | exact Nat.le_refl _
theorem rwe_le (t : Nat) : ∀ (a i rm : Int32) (n : Nat) (L : List Int32), n ≤ (rwe t a i rm n L).2.1 := by
  induction t with
  | zero => intro a i rm n L; exact Nat.le_refl _
  | succ t ih => intro a i rm n L; rw [rwe]; exact Nat.le_trans (rad_le a rm n L _) (ih _ _ _ _ _)
theorem gap_out {x : Int32} : x ≤ nI (x.toNatClampNeg - 0) := by
  rcases Int32.lt_or_le x 0 with h | h
  · have h0 : x.toNatClampNeg = 0 := by
      have := Int32.lt_iff_toInt_lt.mp h
      rw [Int32.toNatClampNeg]
      have h1 : (0 : Int32).toInt = 0 := rfl
      omega
    rw [h0]; exact Int32.le_of_lt h
  · obtain ⟨j, hj, rfl⟩ := nI_of (Int32.not_lt.mpr h)
    rw [nI_clamp hj]; exact Int32.le_refl _
theorem gap_in {x : Int32} {t : Nat} (h : t + 1 ≤ x.toNatClampNeg) : ¬ x ≤ nI (x.toNatClampNeg - (t + 1)) := by
  rcases Int32.lt_or_le x 0 with h2 | h2
  · have h0 : x.toNatClampNeg = 0 := by
      have := Int32.lt_iff_toInt_lt.mp h2
      rw [Int32.toNatClampNeg]
      have h1 : (0 : Int32).toInt = 0 := rfl
      omega
    omega
  · obtain ⟨j, hj, rfl⟩ := nI_of (Int32.not_lt.mpr h2)
    rw [nI_clamp hj] at h ⊢
    exact nI_ge (by omega) hj
def spk (L : List Int32) (pl ln cm : Int32) : Int32 := if ln ≤ cm then 255 else rb L (pl + cm)
def scm (ln cm : Int32) : Int32 := if ln ≤ cm then cm else cm + 1
def rbi (L : List Int32) (pl ln la va cm : Int32) : Int32 × Int32 × Int32 × Int32 := if la = 255 then (if spk L pl ln cm ≤ 143 then (spk L pl ln cm, va + (spk L pl ln cm <<< ((9 : Int32) &&& 31)), 7, scm ln cm) else (la, va + 65280, 8, cm)) else (spk L pl ln cm, va + (spk L pl ln cm <<< ((8 : Int32) &&& 31)), 8, scm ln cm)
def rbg (L : List Int32) (pl ln cm : Int32) : Int32 × Int32 × Int32 × Int32 := ((rbi L pl ln (spk L pl ln cm) (spk L pl ln cm <<< ((16 : Int32) &&& 31)) (scm ln cm)).1, (rbi L pl ln (spk L pl ln cm) (spk L pl ln cm <<< ((16 : Int32) &&& 31)) (scm ln cm)).2.1 <<< ((7 : Int32) &&& 31), (rbi L pl ln (spk L pl ln cm) (spk L pl ln cm <<< ((16 : Int32) &&& 31)) (scm ln cm)).2.2.1 - 7, (rbi L pl ln (spk L pl ln cm) (spk L pl ln cm <<< ((16 : Int32) &&& 31)) (scm ln cm)).2.2.2)
def ren : Nat → List Int32 → Int32 → Int32 → Int32 → Int32 → Int32 → Int32 → Int32 → Int32 × Int32 × Int32 × Int32 × Int32
  | 0, _, _, _, la, va, sz, rm, cm => (la, va, sz, rm, cm)
  | t + 1, L, pl, ln, la, va, sz, rm, cm => if (32768 : Int32) ≤ sz then (la, va, sz, rm, cm) else if rm = 0 then ren t L pl ln (rbi L pl ln la va cm).1 ((rbi L pl ln la va cm).2.1 * 2) (sz * 2) ((rbi L pl ln la va cm).2.2.1 - 1) (rbi L pl ln la va cm).2.2.2 else ren t L pl ln la (va * 2) (sz * 2) (rm - 1) cm
def rfL (L : List Int32) (pl ln la va sz rm cm : Int32) (sf lf : Nat → Int32) (x : Int32) : Int32 × Int32 × Int32 × Int32 × Int32 × Int32 × (Nat → Int32) × (Nat → Int32) := (ent 19 lf x, (ren 15 L pl ln la va sz rm cm).1, (ren 15 L pl ln la va sz rm cm).2.1, (ren 15 L pl ln la va sz rm cm).2.2.1, (ren 15 L pl ln la va sz rm cm).2.2.2.1, (ren 15 L pl ln la va sz rm cm).2.2.2.2, cLk sf lf x)
def rfO (L : List Int32) (pl ln la va sz rm cm : Int32) (sf lf : Nat → Int32) (x : Int32) : Int32 × Int32 × Int32 × Int32 × Int32 × Int32 × (Nat → Int32) × (Nat → Int32) := (1 - ent 19 lf x, (ren 15 L pl ln la va sz rm cm).1, (ren 15 L pl ln la va sz rm cm).2.1, (ren 15 L pl ln la va sz rm cm).2.2.1, (ren 15 L pl ln la va sz rm cm).2.2.2.1, (ren 15 L pl ln la va sz rm cm).2.2.2.2, cOt sf lf x)
def rnb (L : List Int32) (pl ln la va sz rm cm : Int32) (sf lf : Nat → Int32) (x : Int32) : Int32 × Int32 × Int32 × Int32 × Int32 × Int32 × (Nat → Int32) × (Nat → Int32) :=
  if prt sf x ≤ jushr va 16 then (if sz - prt sf x < 32768 then (if sz - prt sf x < prt sf x then rfO L pl ln la (va - (prt sf x <<< ((16 : Int32) &&& 31))) (sz - prt sf x) rm cm sf lf x else rfL L pl ln la (va - (prt sf x <<< ((16 : Int32) &&& 31))) (sz - prt sf x) rm cm sf lf x) else (ent 19 lf x, la, va - (prt sf x <<< ((16 : Int32) &&& 31)), sz - prt sf x, rm, cm, sf, lf))
  else if prt sf x ≤ sz - prt sf x then rfO L pl ln la va (prt sf x) rm cm sf lf x else rfL L pl ln la va (prt sf x) rm cm sf lf x
def rrb2 (la le cm : Int32) : Int32 × Int32 × Int32 × Int32 := (jushr la (le - 1) &&& 1, la, le - 1, cm)
def rrb (L : List Int32) (pl ln la le cm : Int32) : Int32 × Int32 × Int32 × Int32 := if le = 0 then (if la = 255 then rrb2 (spk L pl ln cm) 7 (scm ln cm) else rrb2 (spk L pl ln cm) 8 (scm ln cm)) else rrb2 la le cm

def bitw (w : Int64) (t : Nat) : Int32 := (jlushr w (nI t)).toInt32 &&& 1
def wlp : Nat → Int32 → Int32 → Int32 → Int64 → Int32 → Int32 → Int32 → Int32 → (Nat → Int32) → (Nat → Int32) → Nat → List Int32 → Int32 × Int32 × Int32 × Int32 × (Nat → Int32) × (Nat → Int32) × Nat × List Int32
  | 0, _, _, _, _, lo, sz, rm, rw, sf, lf, n, L => (lo, sz, rm, rw, sf, lf, n, L)
  | t + 1, sr, a, x, w, lo, sz, rm, rw, sf, lf, n, L =>
    if sr = 0 then wlp t sr a x w (wad a lo sz rm sf lf n L x (bitw w t)).1 (wad a lo sz rm sf lf n L x (bitw w t)).2.1 (wad a lo sz rm sf lf n L x (bitw w t)).2.2.1 rw (wad a lo sz rm sf lf n L x (bitw w t)).2.2.2.1 (wad a lo sz rm sf lf n L x (bitw w t)).2.2.2.2.1 (wad a lo sz rm sf lf n L x (bitw w t)).2.2.2.2.2.1 (wad a lo sz rm sf lf n L x (bitw w t)).2.2.2.2.2.2
    else wlp t sr a x w lo sz rm (rad a rw n L (bitw w t)).1 sf lf (rad a rw n L (bitw w t)).2.1 (rad a rw n L (bitw w t)).2.2
theorem wad_le (a lo sz rm : Int32) (sf lf : Nat → Int32) (n : Nat) (L : List Int32) (x b : Int32) : n ≤ (wad a lo sz rm sf lf n L x b).2.2.2.2.2.1 := enl_le _ _ _ _ _ _ _
theorem wlp_le (t : Nat) : ∀ (sr a x : Int32) (w : Int64) (lo sz rm rw : Int32) (sf lf : Nat → Int32) (n : Nat) (L : List Int32), n ≤ (wlp t sr a x w lo sz rm rw sf lf n L).2.2.2.2.2.2.1 := by
  induction t with
  | zero => intro sr a x w lo sz rm rw sf lf n L; exact Nat.le_refl _
  | succ t ih =>
    intro sr a x w lo sz rm rw sf lf n L
    rw [wlp]
    split
    · exact Nat.le_trans (wad_le a lo sz rm sf lf n L x _) (ih _ _ _ _ _ _ _ _ _ _ _ _)
    · exact Nat.le_trans (rad_le a rw n L _) (ih _ _ _ _ _ _ _ _ _ _ _ _)
theorem sub_1 (x : Int32) : x + (-1) = x - 1 := (Int32.sub_eq_add_neg x 1).symm
def blp : Nat → Int32 → List Int32 → Int32 → Int32 → Int32 → Int64 → Int32 → Int32 → Int32 → Int32 → Int32 → (Nat → Int32) → (Nat → Int32) → Int32 → Int32 → Int64 × Int32 × Int32 × Int32 × Int32 × Int32 × (Nat → Int32) × (Nat → Int32) × Int32 × Int32
  | 0, _, _, _, _, _, c, la, va, sz, rm, cm, sf, lf, lb, le => (c, la, va, sz, rm, cm, sf, lf, lb, le)
  | t + 1, dw, L, pl, ln, x, c, la, va, sz, rm, cm, sf, lf, lb, le =>
    if dw = 0 then blp t dw L pl ln x ((c <<< ((1 : Int32).toInt64 &&& 63)) ||| (rnb L pl ln la va sz rm cm sf lf x).1.toInt64) (rnb L pl ln la va sz rm cm sf lf x).2.1 (rnb L pl ln la va sz rm cm sf lf x).2.2.1 (rnb L pl ln la va sz rm cm sf lf x).2.2.2.1 (rnb L pl ln la va sz rm cm sf lf x).2.2.2.2.1 (rnb L pl ln la va sz rm cm sf lf x).2.2.2.2.2.1 (rnb L pl ln la va sz rm cm sf lf x).2.2.2.2.2.2.1 (rnb L pl ln la va sz rm cm sf lf x).2.2.2.2.2.2.2 lb le
    else blp t dw L pl ln x ((c <<< ((1 : Int32).toInt64 &&& 63)) ||| (rrb L pl ln lb le cm).1.toInt64) la va sz rm (rrb L pl ln lb le cm).2.2.2 sf lf (rrb L pl ln lb le cm).2.1 (rrb L pl ln lb le cm).2.2.1

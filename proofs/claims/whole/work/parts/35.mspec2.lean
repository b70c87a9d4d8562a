def mr2 (rm : Int32) (L : List Int32) (b : Int32) : Int32 × List Int32 := (rm - 1, rs L (nI L.length - 1) (mlast L ||| (b <<< ((rm - 1) &&& 31))))
def mrw (bg rm : Int32) (L : List Int32) (b : Int32) : Int32 × List Int32 := if rm = 0 then (if nI L.length ≤ bg then mr2 8 (L ++ [0]) b else if mlast L = 255 then mr2 7 (L ++ [0]) b else mr2 8 (L ++ [0]) b) else mr2 rm L b
/-- what is read lies in the row -/
def rdok (pl lm : Int32) (L : List Int32) : Prop := ∃ p l : Nat, pl = nI p ∧ lm = nI l ∧ p + l ≤ L.length ∧ L.length ≤ 65536
theorem rd_in {pl lm x : Int32} {L : List Int32} (h : rdok pl lm L) (hx : ¬ x < 0) (c : ¬ lm ≤ x) : ¬ pl + x < 0 ∧ ¬ nI L.length ≤ pl + x := by
  obtain ⟨p, q, rfl, rfl, h1, h2⟩ := h
  obtain ⟨j, hj, rfl⟩ := nI_of hx
  have h3 : j < q := by
    rcases Nat.lt_or_ge j q with r | r
    · exact r
    · exact absurd (nI_le r hj) c
  rw [nI_add]
  exact ⟨nI_pos (by omega), nI_ge (by omega) (by omega)⟩
def mci (L : List Int32) (pl lm nx la : Int32) : Int32 × Int32 × Int32 × Int32 := if la = 255 then (if spk L pl lm nx ≤ 143 then (spk L pl lm nx <<< ((9 : Int32) &&& 31), 7, spk L pl lm nx, nx + 1) else (65280, 8, la, nx)) else (spk L pl lm nx <<< ((8 : Int32) &&& 31), 8, spk L pl lm nx, nx + 1)
def mrd (sp : Int32) (av : Int64) : Int64 := if lg_cmp (((sp.toInt64 <<< ((16 : Int32).toInt64 &&& 63)) - 1 - av) >>> ((32 : Int32).toInt64 &&& 63)) 0 = 0 then av else av + 4294967296
def mr4 (la le nx : Int32) : Int32 × Int32 × Int32 × Int32 := ((la >>> ((le - 1) &&& 31)) &&& 1, le - 1, la, nx)
def mrr (L : List Int32) (pl lm nx la le : Int32) : Int32 × Int32 × Int32 × Int32 := if le = 0 then (if nx ≤ 0 then mr4 (spk L pl lm nx) 8 (nx + 1) else if la = 255 then mr4 (spk L pl lm nx) 7 (nx + 1) else mr4 (spk L pl lm nx) 8 (nx + 1)) else mr4 la le nx
theorem len_app1 {L : List Int32} {b : Int32} : (L ++ [b]).length = L.length + 1 := by simp
section MW
variable {f : Nat → Int32} {u bg x b : Int32} {L : List Int32}
theorem m_pos (h : row_ok 65536 f u L) (hp : 0 < L.length) : ¬ u - 1 < 0 ∧ ¬ u ≤ u - 1 ∧ ¬ nI 65536 ≤ u - 1 := by
  have hl := row_len h
  have hu := h.1
  subst hu
  obtain ⟨q, hq⟩ : ∃ q, L.length = q + 1 := ⟨L.length - 1, by omega⟩
  rw [hq, nI_pred q]
  exact ⟨nI_pos (by omega), nI_ge (by omega) (by omega), nI_ge (by omega) (by decide)⟩
theorem mp_in (h : row_ok 65536 f u L) (hp : 0 < L.length) : vp_in (u - 1) 65536 := ix_in (by decide) (m_pos h hp).1 (m_pos h hp).2.2
theorem mp_lv (h : row_ok 65536 f u L) (hp : 0 < L.length) : f (u - 1).toNatClampNeg = mlast L := by
  rw [mlast, ← h.1]; exact rb_in h (m_pos h hp).1 (m_pos h hp).2.1
theorem mp_set (h : row_ok 65536 f u L) (hp : 0 < L.length) : row_ok 65536 (upd f (u - 1).toNatClampNeg b) u (rs L (nI L.length - 1) b) := by
  rw [← h.1]; exact rs_ok h (m_pos h hp).1
end MW
theorem mr2_eq {r x b : Int32} {L : List Int32} (e : x = r - 1) : mr2 r L b = (x, rs L (nI L.length - 1) (mlast L ||| (b <<< (x &&& 31)))) := by
  subst e; rfl

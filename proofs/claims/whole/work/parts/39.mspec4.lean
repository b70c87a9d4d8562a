/-- an array that is filled from a list up to place j -/
def pf (l : List Int32) (j : Nat) : Nat → Int32 := fun q => if q < j then l.getD q 0 else 0
theorem pf_0 (l : List Int32) : (fun _ => (0 : Int32)) = pf l 0 := by funext q; rw [pf, if_neg (Nat.not_lt_zero q)]
theorem pf_s {l : List Int32} {j : Nat} {v : Int32} (x : Int32) (hx : x.toNatClampNeg = j) (hv : l.getD j 0 = v) : upd (pf l j) x.toNatClampNeg v = pf l (j + 1) := by
  subst hv
  subst hx
  funext q
  unfold upd pf
  by_cases h1 : q = x.toNatClampNeg
  · subst h1
    rw [if_pos rfl, if_pos (Nat.lt_succ_self _)]
  · rw [if_neg h1]
    by_cases h2 : q < x.toNatClampNeg
    · rw [if_pos h2, if_pos (by omega)]
    · rw [if_neg h2, if_neg (by omega)]
theorem pf_P : pf tabP 47 = tfP := by
  funext q
  unfold pf tfP
  by_cases h : q < 47
  · rw [if_pos h]
  · rw [if_neg h, List.getD_eq_getElem?_getD, List.getElem?_eq_none (by show tabP.length ≤ q; rw [show tabP.length = 47 from rfl]; omega)]; rfl
theorem pf_O : pf tabO 47 = tfO := by
  funext q
  unfold pf tfO
  by_cases h : q < 47
  · rw [if_pos h]
  · rw [if_neg h, List.getD_eq_getElem?_getD, List.getElem?_eq_none (by show tabO.length ≤ q; rw [show tabO.length = 47 from rfl]; omega)]; rfl
def mdb : Nat → Int32 → Int32 → Int32
  | 0, _, n => n
  | t + 1, w, n => if 32768 ≤ w then n else mdb t (w + w) (n + 1)
/-- a width that t doublings bring to 32768 -/
def wdk (t : Nat) (w : Int32) : Prop := ∃ j : Nat, w = nI j ∧ j < 65536 ∧ 32768 ≤ j * 2 ^ t
theorem wdk_0 {w : Int32} (h : wdk 0 w) : 32768 ≤ w := by
  obtain ⟨j, rfl, h1, h2⟩ := h
  exact (show nI 32768 ≤ nI j from nI_le (by omega) (by omega))
theorem wdk_s {t : Nat} {w : Int32} (h : wdk (t + 1) w) (c : ¬ 32768 ≤ w) : wdk t (w + w) := by
  obtain ⟨j, rfl, h1, h2⟩ := h
  have h3 : j < 32768 := by
    rcases Nat.lt_or_ge j 32768 with q | q
    · exact q
    · exact absurd (show nI 32768 ≤ nI j from nI_le q (by omega)) c
  refine ⟨j + j, by rw [nI_add], by omega, ?_⟩
  rw [Nat.pow_succ] at h2
  have e : (j + j) * 2 ^ t = j * (2 ^ t * 2) := by rw [Nat.add_mul, Nat.mul_comm (2 ^ t) 2, ← Nat.mul_assoc, Nat.mul_comm j 2, Nat.mul_assoc, Nat.two_mul]
  omega
theorem wdk_15 {j : Nat} (h1 : 1 ≤ j) (h2 : j < 65536) : wdk 15 (nI j) := ⟨j, rfl, h2, by omega⟩
theorem mix_in2 {x y z : Int32} (h : mot y 0 18 = 0) (e : z = mix x y) : vp_in z 38 := e ▸ mix_in h

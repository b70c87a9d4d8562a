/-! the row of bytes: L is what is in it, n its width, f its cells, u its count -/
section NA
variable {D : va_G} {cl : List vw_C} {k : gK} {s : State} {cA : ClassId}
theorem newa_int (h : va_K D cl (gTY k ++ [(cA, .int)]) s) : cA = k.1 := by
  have h1 : s.vm.findClass ("[" ++ FieldType.int.toString) = some cA := (h.2 2 _ rfl).2
  have h0 : s.vm.findClass ("[" ++ FieldType.int.toString) = some k.1 := (h.2 0 _ rfl).2
  exact Option.some.inj (h1.symm.trans h0)
theorem newa_long (h : va_K D cl (gTY k ++ [(cA, .long)]) s) : cA = k.2.1 := by
  have h1 : s.vm.findClass ("[" ++ FieldType.long.toString) = some cA := (h.2 2 _ rfl).2
  have h0 : s.vm.findClass ("[" ++ FieldType.long.toString) = some k.2.1 := (h.2 1 _ rfl).2
  exact Option.some.inj (h1.symm.trans h0)
end NA
def row_ok (n : Nat) (f : Nat → Int32) (u : Int32) (L : List Int32) : Prop := u = nI L.length ∧ L.length ≤ n ∧ 256 ≤ n ∧ (∃ j : Nat, n * 2 ^ j = 65536) ∧ ∀ j, j < L.length → f j = L.getD j 255
/-- byte x of the row, 255 where there is none -/
def rb (L : List Int32) (x : Int32) : Int32 := if x < 0 then 255 else L.getD x.toNatClampNeg 255
def rs (L : List Int32) (x b : Int32) : List Int32 := if x < 0 then L else L.set x.toNatClampNeg b
def apn (n : Nat) (L : List Int32) : Nat := if L.length < n then n else if 65536 ≤ n then n else 2 * n
def app (L : List Int32) (b : Int32) : List Int32 := if L.length < 65536 then L ++ [b] else L
section RW
variable {n : Nat} {f : Nat → Int32} {u : Int32} {L : List Int32} {x b : Int32}
theorem row_le (h : row_ok n f u L) : n ≤ 65536 := by
  obtain ⟨j, hj⟩ := h.2.2.2.1
  have h1 : 1 ≤ 2 ^ j := Nat.one_le_two_pow
  calc n = n * 1 := (Nat.mul_one n).symm
    _ ≤ n * 2 ^ j := Nat.mul_le_mul_left n h1
    _ = 65536 := hj
theorem row_half (h : row_ok n f u L) (hn : ¬ 65536 ≤ n) : ∃ j : Nat, (2 * n) * 2 ^ j = 65536 := by
  obtain ⟨j, hj⟩ := h.2.2.2.1
  cases j with
  | zero => simp at hj; omega
  | succ j => exact ⟨j, by rw [← hj, Nat.pow_succ, Nat.mul_comm 2 n, Nat.mul_assoc, Nat.mul_comm 2 (2 ^ j)]⟩
theorem row_len (h : row_ok n f u L) : L.length ≤ 65536 := Nat.le_trans h.2.1 (row_le h)
theorem rb_neg (c : x < 0) : (255 : Int32) = rb L x := by rw [rb, if_pos c]
theorem rb_out (h : row_ok n f u L) (c1 : ¬ x < 0) (c2 : u ≤ x) : (255 : Int32) = rb L x := by
  have hl := row_len h
  obtain ⟨j, hj, rfl⟩ := nI_of c1
  rw [h.1] at c2
  have : L.length ≤ j := (nI_leI (by omega) hj).mp c2
  rw [rb, if_neg c1, nI_clamp hj, List.getD_eq_getElem?_getD, List.getElem?_eq_none this]; rfl
theorem row_dead (h : row_ok n f u L) (c1 : ¬ x < 0) (c2 : ¬ u ≤ x) (c3 : nI n ≤ x) : False := by
  have hl := row_le h
  obtain ⟨j, hj, rfl⟩ := nI_of c1
  rw [h.1] at c2
  have h3 : n ≤ j := (nI_leI (by omega) hj).mp c3
  exact c2 (nI_le (Nat.le_trans h.2.1 h3) hj)
theorem row_in (h : row_ok n f u L) (c1 : ¬ x < 0) (c3 : ¬ nI n ≤ x) : vp_in x n := ix_in (by have := row_le h; omega) c1 c3
theorem rb_in (h : row_ok n f u L) (c1 : ¬ x < 0) (c2 : ¬ u ≤ x) : f x.toNatClampNeg = rb L x := by
  obtain ⟨j, hj, rfl⟩ := nI_of c1
  rw [h.1] at c2
  have hlt : j < L.length := by
    rcases Nat.lt_or_ge j L.length with q | q
    · exact q
    · exact absurd (nI_le q hj) c2
  rw [rb, if_neg c1, nI_clamp hj, h.2.2.2.2 j hlt]
theorem rs_neg (c : x < 0) : L = rs L x b := by rw [rs, if_pos c]
theorem rs_out (h : row_ok n f u L) (c1 : ¬ x < 0) (c2 : u ≤ x) : L = rs L x b := by
  have hl := row_len h
  obtain ⟨j, hj, rfl⟩ := nI_of c1
  rw [h.1] at c2
  have : L.length ≤ j := (nI_leI (by omega) hj).mp c2
  rw [rs, if_neg c1, nI_clamp hj, List.set_eq_of_length_le this]
theorem rs_ok (h : row_ok n f u L) (c1 : ¬ x < 0) : row_ok n (upd f x.toNatClampNeg b) u (rs L x b) := by
  obtain ⟨h1, h2, h3, h4, h5⟩ := h
  have e : (rs L x b).length = L.length := by rw [rs, if_neg c1, List.length_set]
  refine ⟨by rw [e]; exact h1, by rw [e]; exact h2, h3, h4, fun j hj => ?_⟩
  rw [e] at hj
  rw [rs, if_neg c1, upd]
  by_cases q : j = x.toNatClampNeg
  · rw [if_pos q, q, List.getD_eq_getElem?_getD, List.getElem?_set_self (by omega)]; rfl
  · rw [if_neg q, h5 j hj, List.getD_eq_getElem?_getD, List.getD_eq_getElem?_getD, List.getElem?_set_ne (Ne.symm q)]
theorem row_ok_nil (h : row_ok n f u L) : row_ok n f 0 [] := ⟨rfl, Nat.zero_le _, h.2.2.1, h.2.2.2.1, fun j hj => absurd hj (Nat.not_lt_zero j)⟩
theorem row_drop (h : row_ok n f u L) (c : ¬ u ≤ 0) : row_ok n f (u - 1) L.dropLast := by
  have hl := row_len h
  obtain ⟨h1, h2, h3, h4, h5⟩ := h
  have hp : 0 < L.length := by
    rcases Nat.eq_zero_or_pos L.length with q | q
    · rw [h1, q] at c; exact absurd (by decide) c
    · exact q
  refine ⟨?_, by rw [List.length_dropLast]; omega, h3, h4, fun j hj => ?_⟩
  · rw [List.length_dropLast, h1]
    obtain ⟨q, hq⟩ : ∃ q, L.length = q + 1 := ⟨L.length - 1, by omega⟩
    rw [hq]; exact nI_pred q
  · rw [List.length_dropLast] at hj
    rw [h5 j (by omega), List.getD_eq_getElem?_getD, List.getD_eq_getElem?_getD, List.getElem?_dropLast, if_pos hj]
theorem row_nodrop (h : row_ok n f u L) (c : u ≤ 0) : L = L.dropLast := by
  have hl := row_len h
  rw [h.1] at c
  have h0 : L.length = 0 := by
    rcases Nat.eq_zero_or_pos L.length with q | q
    · exact q
    · exact absurd c (nI_nle q (by omega))
  rw [List.length_eq_zero_iff.mp h0]; rfl
theorem app_out (h : row_ok n f u L) (c : nI n ≤ u) (hn : apn n L = n) : L = app L b := by
  have hl := row_len h
  have hn2 := row_le h
  rw [h.1] at c
  have c' : n ≤ L.length := (nI_leI (by omega) (by omega)).mp c
  have h3 := h.2.2.1
  have : ¬ L.length < 65536 := by
    intro q
    rw [apn, if_neg (by omega)] at hn
    split at hn <;> omega
  rw [app, if_neg this]
theorem app_ok (h : row_ok n f u L) (c : ¬ nI n ≤ u) : row_ok n (upd f u.toNatClampNeg b) (u + 1) (app L b) := by
  have hl := row_len h
  have hn2 := row_le h
  obtain ⟨h1, h2, h3, h4, h5⟩ := h
  subst h1
  have c' : L.length < n := by
    rcases Nat.lt_or_ge L.length n with q | q
    · exact q
    · exact absurd (nI_le q (by omega)) c
  have e : app L b = L ++ [b] := by rw [app, if_pos (by omega)]
  rw [e, nI_clamp (by omega)]
  refine ⟨by rw [List.length_append]; exact nI_1 _, by rw [List.length_append]; simp; omega, h3, h4, fun j hj => ?_⟩
  rw [List.length_append] at hj
  simp only [List.length_cons, List.length_nil] at hj
  rw [upd, List.getD_eq_getElem?_getD]
  by_cases q : j = L.length
  · rw [if_pos q, q, List.getElem?_append_right (Nat.le_refl _)]; simp
  · rw [if_neg q, List.getElem?_append_left (by omega), h5 j (by omega), List.getD_eq_getElem?_getD]
theorem row_neg (h : row_ok n f u L) : ¬ u < 0 := by
  have hl := row_len h
  rw [h.1]; exact nI_pos (by omega)
theorem row_wide (h : row_ok n f u L) (c : nI n ≤ u) (hn : ¬ 65536 ≤ n) : row_ok (2 * n) (va_cpy f (fun _ => 0) 0 0 n) u L := by
  obtain ⟨j, hj⟩ := row_half h hn
  obtain ⟨h1, h2, h3, h4, h5⟩ := h
  exact ⟨h1, by omega, by omega, ⟨j, hj⟩, fun i hi => by rw [← h5 i hi, va_cpy, if_pos ⟨Nat.zero_le _, by omega⟩]; simp⟩
end RW
theorem ha_int (n : Nat) : ∀ cA : ClassId, vp_cell cA (n, .inl (fun _ => 0)) = arrV cA n (fun _ => defaultValue .int) := fun _ => rfl
theorem ha_long (n : Nat) : ∀ cA : ClassId, vp_cell cA (n, .inr (.inl (fun _ => 0))) = arrV cA n (fun _ => defaultValue .long) := fun _ => rfl

theorem one_shl {r : Nat} (h : r ≤ 27) : (1 : Int32) <<< ((27 - nI r) &&& 31) = nI (2 ^ (27 - r)) := by
  rw [show (27 : Int32) - nI r = nI (27 - r) from (show nI 27 - nI r = nI (27 - r) from nI_sub h)]
  have h1 : (2 : Nat) ^ (27 - r) < 2 ^ 32 := Nat.pow_lt_pow_right (by decide) (by omega)
  have h2 := nI_shl (a := 1) (d := 27 - r) (by omega) (by omega)
  rw [Nat.one_mul] at h2
  exact h2
theorem p27 (r : Nat) : 2 ^ (27 - r) < 2 ^ 31 := Nat.pow_lt_pow_right (by decide) (by omega)
theorem p28 {r : Nat} (h : r ≤ 12) : 2 ^ (28 - r) = 2 * 2 ^ (27 - r) := by rw [show 28 - r = (27 - r) + 1 by omega, Nat.pow_succ, Nat.mul_comm]
theorem p28b {r : Nat} (h1 : 1 ≤ r) (h2 : r ≤ 12) : 2 ^ (28 - (r - 1)) = 2 * 2 ^ (28 - r) := by rw [show 28 - (r - 1) = (28 - r) + 1 by omega, Nat.pow_succ, Nat.mul_comm]
theorem p27b {r : Nat} (h1 : 1 ≤ r) (h2 : r ≤ 12) : 2 ^ (27 - (r - 1)) = 2 * 2 ^ (27 - r) := by rw [show 27 - (r - 1) = (27 - r) + 1 by omega, Nat.pow_succ, Nat.mul_comm]
theorem p28c (r : Nat) : 2 ^ (28 - r) ≤ 2 ^ 28 := Nat.pow_le_pow_right (by decide) (by omega)
theorem mkc_n {L : List Int32} {bg : Int32} {r x : Nat} (hr : r ≤ 27) (hx : x < 2 ^ 31) : mkc L bg (nI r) (nI x) = if mtk L bg = 0 then 0 else if x < 2 ^ (27 - r) then 0 else 1 := by
  rw [mkc, one_shl hr]
  have h := p27 r
  by_cases c : x < 2 ^ (27 - r)
  · rw [if_pos c, if_pos (nI_lt c h)]
  · rw [if_neg c, if_neg (nI_nlt (by omega) hx)]
theorem mcy_n {cd : Int32} {r : Nat} (hr : r ≤ 27) : mcy cd (nI r) = if cd = 0 then 0 else nI (2 ^ (27 - r)) := by rw [mcy, one_shl hr]
/-- one doubling keeps the two registers together -/
theorem cpl_s {L : List Int32} {bg : Int32} {r x : Nat} (h1 : 1 ≤ r) (h2 : r ≤ 12) (hx : x < 2 ^ (28 - r)) :
    mkc L bg (nI (r - 1)) (nI (x * 2)) = mkc L bg (nI r) (nI x) ∧ (nI x - mcy (mkc L bg (nI r) (nI x)) (nI r)) <<< (nI 1 &&& 31) = nI (x * 2) - mcy (mkc L bg (nI r) (nI x)) (nI (r - 1)) := by
  have e1 := p28 h2
  have e2 := p28c r
  have e3 := p27b h1 h2
  have hk : mkc L bg (nI (r - 1)) (nI (x * 2)) = mkc L bg (nI r) (nI x) := by
    rw [mkc_n (by omega) (by omega), mkc_n (by omega) (by omega), e3]
    by_cases c : x < 2 ^ (27 - r)
    · rw [if_pos c, if_pos (show x * 2 < 2 * 2 ^ (27 - r) by omega)]
    · rw [if_neg c, if_neg (show ¬ x * 2 < 2 * 2 ^ (27 - r) by omega)]
  refine ⟨hk, ?_⟩
  rw [mcy_n (by omega), mcy_n (by omega)]
  by_cases c : mkc L bg (nI r) (nI x) = 0
  · rw [if_pos c, if_pos c, Int32.sub_zero, Int32.sub_zero, nI_shl (by omega) (by omega)]
  · rw [if_neg c, if_neg c]
    have hc : 2 ^ (27 - r) ≤ x := by
      rw [mkc_n (by omega) (by omega)] at c
      rcases Nat.lt_or_ge x (2 ^ (27 - r)) with q | q
      · rw [if_pos q] at c; exact absurd (by split <;> rfl) c
      · exact q
    rw [nI_sub hc, nI_shl (by omega) (by omega), e3, nI_sub (by omega)]
    congr 1
    omega
theorem mkc_lt {L : List Int32} {bg : Int32} {r x : Nat} (hr : r ≤ 27) (hx : x < 2 ^ (27 - r)) : mkc L bg (nI r) (nI x) = 0 := by
  have h := p27 r
  rw [mkc_n hr (by omega), if_pos hx]
  split <;> rfl
theorem mwl_0 (T : Nat) (bg lo cd rm : Int32) (L : List Int32) : mwl T (nI 0) bg lo cd rm L = (lo, cd, rm, L) := by
  cases T with
  | zero => rfl
  | succ T => rw [mwl, if_pos (show nI 0 ≤ 0 by decide)]
theorem shl_shl (a : Int32) {i j : Nat} (h : i + j < 32) : (a <<< (nI i &&& 31)) <<< (nI j &&& 31) = a <<< (nI (i + j) &&& 31) := by
  apply Int32.toBitVec_inj.mp
  apply BitVec.eq_of_toNat_eq
  rw [pk_shl _ _ j (sh_k j (by omega)), pk_shl _ _ i (sh_k i (by omega)), pk_shl _ _ (i + j) (sh_k _ h), Nat.mod_mul_mod, Nat.pow_add, Nat.mul_assoc]
theorem mwl_A {T d r : Nat} {bg lo cd : Int32} {L : List Int32} (h1 : 2 ≤ r) (h2 : r ≤ 12) (hd : d < 1000) : mwl (T + 1) (nI (d + 1)) bg lo cd (nI r) L = mwl (T + 1) (nI d) bg (lo <<< (nI 1 &&& 31)) cd (nI (r - 1)) L := by
  have c0 : ¬ nI (d + 1) ≤ 0 := nI_nle (by omega) (by omega)
  rw [mwl, if_neg c0]
  rcases Nat.lt_or_ge (d + 1) r with c | c
  · have em : mwm (nI (d + 1)) (nI r) = nI (d + 1) := if_neg (nI_ge c (by omega))
    rw [em, nI_sub (a := r) (b := d + 1) (by omega), if_neg (show ¬ nI (r - (d + 1)) = 0 from nI_ne0 (by omega) (by omega)), nI_sub (Nat.le_refl _), Nat.sub_self, mwl_0]
    rcases Nat.eq_zero_or_pos d with q | q
    · subst q
      rw [mwl_0]
    · have em2 : mwm (nI d) (nI (r - 1)) = nI d := if_neg (nI_ge (by omega) (by omega))
      rw [mwl, if_neg (nI_nle q (by omega)), em2, nI_sub (a := r - 1) (b := d) (by omega), if_neg (show ¬ nI (r - 1 - d) = 0 from nI_ne0 (by omega) (by omega)), nI_sub (Nat.le_refl _), Nat.sub_self, mwl_0, shl_shl _ (by omega), show 1 + d = d + 1 by omega, show r - 1 - d = r - (d + 1) by omega]
  · have em : mwm (nI (d + 1)) (nI r) = nI r := if_pos (nI_le c (by omega))
    have em2 : mwm (nI d) (nI (r - 1)) = nI (r - 1) := if_pos (nI_le (by omega) (by omega))
    rw [em, if_pos (Int32.sub_self _), nI_sub c, mwl, if_neg (nI_nle (by omega) (by omega)), em2, if_pos (Int32.sub_self _), nI_sub (a := d) (b := r - 1) (by omega), shl_shl _ (by omega), show 1 + (r - 1) = r by omega, show d - (r - 1) = d + 1 - r by omega]
theorem mwl_B {T d : Nat} {bg lo cd : Int32} {L : List Int32} (hd : d < 1000) : mwl (T + 1) (nI (d + 1)) bg lo cd (nI 1) L = mwl T (nI d) bg (mbo bg (lo <<< (nI 1 &&& 31)) cd L).1 0 (mbo bg (lo <<< (nI 1 &&& 31)) cd L).2.1 (mbo bg (lo <<< (nI 1 &&& 31)) cd L).2.2 := by
  have c0 : ¬ nI (d + 1) ≤ 0 := nI_nle (by omega) (by omega)
  have em : mwm (nI (d + 1)) (nI 1) = nI 1 := if_pos (nI_le (by omega) (by omega))
  rw [mwl, if_neg c0, em, if_pos (Int32.sub_self _), nI_sub (by omega), Nat.add_sub_cancel]
def cwi (a x s r : Nat) (L : List Int32) : Prop := x + s ≤ 2 ^ (28 - r) ∧ 1 ≤ r ∧ r ≤ 12 ∧ a ≤ L.length ∧ bok L
theorem nI_mul2 (n : Nat) : nI n * 2 = nI (n * 2) := pk_mul n 2
theorem pw_half {s d : Nat} : s * 2 ^ (d + 1) = s * 2 * 2 ^ d := by rw [Nat.pow_succ, Nat.mul_comm (2 ^ d) 2, Nat.mul_assoc]
/-- what the enlarging leaves, in both -/
def enq (a s : Nat) (e : Int32 × Int32 × Int32 × Nat × List Int32) (m : Int32 × Int32 × Int32 × List Int32) : Prop :=
  ∃ x r : Nat, e.1 = nI x ∧ e.2.1 = nI s ∧ e.2.2.1 = nI r ∧ m.2.2.1 = nI r ∧ e.2.2.2.2 = m.2.2.2 ∧ cwi a x s r m.2.2.2 ∧ m.2.1 = mkc m.2.2.2 (nI a) (nI r) (nI x) ∧ m.1 = nI x - mcy m.2.1 (nI r)
theorem cw_enl (d : Nat) : ∀ (t T a x s r n : Nat) (L : List Int32), d ≤ t → d ≤ T → d < 1000 → (∀ i, i < d → s * 2 ^ i < 32768) → 32768 ≤ s * 2 ^ d → s * 2 ^ d < 65536 → cwi a x s r L → L.length + d ≤ 65536 →
    enq a (s * 2 ^ d) (enl t (nI a) (nI x) (nI s) (nI r) n L) (mwl T (nI d) (nI a) (nI x - mcy (mkc L (nI a) (nI r) (nI x)) (nI r)) (mkc L (nI a) (nI r) (nI x)) (nI r) L) := by
  induction d with
  | zero =>
    intro t T a x s r n L _ _ _ _ h1 h2 hc hl
    rw [mwl_0]
    simp only [Nat.pow_zero, Nat.mul_one] at h1 h2 ⊢
    have he : enl t (nI a) (nI x) (nI s) (nI r) n L = (nI x, nI s, nI r, n, L) := by
      cases t with
      | zero => rfl
      | succ t => rw [enl, if_pos (w_le h1 (by omega))]
    rw [he]
    exact ⟨x, r, rfl, rfl, rfl, rfl, rfl, hc, rfl, rfl⟩
  | succ d ih =>
    intro t T a x s r n L ht hT hd hm h1 h2 hc hl
    obtain ⟨t, rfl⟩ : ∃ t', t = t' + 1 := ⟨t - 1, by omega⟩
    obtain ⟨T, rfl⟩ : ∃ T', T = T' + 1 := ⟨T - 1, by omega⟩
    have hs : s < 32768 := by have := hm 0 (by omega); simpa using this
    have hs0 : 1 ≤ s := by
      rcases Nat.eq_zero_or_pos s with q | q
      · subst q; simp at h1
      · exact q
    obtain ⟨k1, k2, k3, k4, k5⟩ := hc
    have e1 := p28c r
    have hx28 : x < 2 ^ (28 - r) := by omega
    have cp := cpl_s (L := L) (bg := nI a) k2 k3 hx28
    have e3 := p28b k2 k3
    have hm2 : ∀ i, i < d → s * 2 * 2 ^ i < 32768 := fun i hi => by have := hm (i + 1) (by omega); rwa [pw_half] at this
    rw [pw_half] at h1 h2 ⊢
    rw [enl, if_neg (w_lt hs), nI_mul2, nI_mul2]
    rcases Nat.eq_or_lt_of_le k2 with c | c
    · subst c
      rw [if_pos (show nI 1 - 1 = 0 by decide), mwl_B (by omega), cp.2]
      have hb := bo_mbo (a := a) (x := x * 2) (n := n) (L := L) (by have : 2 ^ (28 - 1) = 2 ^ 27 := rfl; omega) k4 (by omega) k5
      rw [← cp.1]
      show enq a (s * 2 * 2 ^ d) _ (mwl T (nI d) (nI a) (mbo (nI a) (nI (x * 2) - mcy (mkc L (nI a) 0 (nI (x * 2))) 0) (mkc L (nI a) 0 (nI (x * 2))) L).1 0 (mbo (nI a) (nI (x * 2) - mcy (mkc L (nI a) 0 (nI (x * 2))) 0) (mkc L (nI a) 0 (nI (x * 2))) L).2.1 (mbo (nI a) (nI (x * 2) - mcy (mkc L (nI a) 0 (nI (x * 2))) 0) (mkc L (nI a) 0 (nI (x * 2))) L).2.2)
      have hlen := mbo_len (nI a) (nI (x * 2) - mcy (mkc L (nI a) 0 (nI (x * 2))) 0) (mkc L (nI a) 0 (nI (x * 2))) L
      generalize mbo (nI a) (nI (x * 2) - mcy (mkc L (nI a) 0 (nI (x * 2))) 0) (mkc L (nI a) 0 (nI (x * 2))) L = q at hb hlen ⊢
      obtain ⟨b1, b2, b3, b4, r1, b5, b6, x1, b7, b8⟩ := hb
      rw [b1, b2, b3, b6, b8]
      have hq : 2 ^ (27 - r1) ≥ 2 ^ 19 := Nat.pow_le_pow_right (by decide) (by omega)
      have hr12 : r1 ≤ 12 := by omega
      have e5 := p28 hr12
      have hk0 : mkc q.2.2 (nI a) (nI r1) (nI x1) = 0 := mkc_lt (by omega) b7
      have h9 := ih t T a x1 (s * 2) r1 (bo (nI a) (nI (x * 2)) n L).2.2.1 q.2.2 (by omega) (by omega) (by omega) hm2 h1 h2 ⟨by omega, by omega, hr12, by omega, b4⟩ (by omega)
      rw [hk0, mcy_0, Int32.sub_zero] at h9
      exact h9
    · have c1 : ¬ nI r - 1 = 0 := by
        rw [show nI r - 1 = nI (r - 1) from (show nI r - nI 1 = nI (r - 1) from nI_sub k2)]
        exact nI_ne0 (by omega) (by omega)
      rw [if_neg c1, show nI r - 1 = nI (r - 1) from (show nI r - nI 1 = nI (r - 1) from nI_sub k2), mwl_A (by omega) k3 (by omega), cp.2, ← cp.1]
      exact ih t (T + 1) a (x * 2) (s * 2) (r - 1) n L (by omega) (by omega) (by omega) hm2 h1 h2 ⟨by omega, by omega, by omega, k4, k5⟩ (by omega)

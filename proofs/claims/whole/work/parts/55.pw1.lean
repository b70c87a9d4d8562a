/-! class and reference: bytes and the coded writer -/
def bok (L : List Int32) : Prop := ∀ b ∈ L, ∃ j : Nat, j < 256 ∧ b = nI j
theorem bok_app {L : List Int32} {b : Int32} (h : bok L) (hb : ∃ j : Nat, j < 256 ∧ b = nI j) : bok (L ++ [b]) := by
  intro x hx
  rcases List.mem_append.mp hx with q | q
  · exact h x q
  · rw [List.mem_singleton.mp q]; exact hb
theorem bok_rs {L : List Int32} {x b : Int32} (h : bok L) (hb : ∃ j : Nat, j < 256 ∧ b = nI j) : bok (rs L x b) := by
  intro y hy
  unfold rs at hy
  split at hy
  · exact h y hy
  · rcases List.mem_or_eq_of_mem_set hy with q | q
    · exact h y q
    · rw [q]; exact hb
theorem bok_drop {L : List Int32} (h : bok L) : bok L.dropLast := fun b hb => h b ((List.dropLast_sublist L).subset hb)
theorem rb_bok {L : List Int32} (h : bok L) (x : Int32) : ∃ j : Nat, j < 256 ∧ rb L x = nI j := by
  unfold rb
  split
  · exact ⟨255, by omega, rfl⟩
  · rw [List.getD_eq_getElem?_getD]
    cases hq : L[x.toNatClampNeg]? with
    | none => exact ⟨255, by omega, rfl⟩
    | some v => exact h v (List.mem_of_getElem? hq)
theorem mlast_bok {L : List Int32} (h : bok L) : ∃ j : Nat, j < 256 ∧ mlast L = nI j := rb_bok h _
theorem mlast_rs {L : List Int32} (hl : L.length ≤ 65536) (h0 : 0 < L.length) (b : Int32) : mlast (rs L (nI L.length - 1) b) = b := by
  obtain ⟨q, hq⟩ : ∃ q, L.length = q + 1 := ⟨L.length - 1, by omega⟩
  rw [mlast, rs_len, hq, nI_pred, rs, if_neg (nI_pos (by omega)), rb, if_neg (nI_pos (by omega)), nI_clamp (by omega), List.getD_eq_getElem?_getD, List.getElem?_set_self (by omega)]; rfl
theorem sgl_some {L : List Int32} {a : Nat} (h : a < L.length) (hl : L.length ≤ 65536) : sgl L (nI a) = mlast L := by
  rw [sgl, nI_sub (by omega), if_neg (nI_nle (by omega) (by omega)), mlast]
theorem sgl_none {L : List Int32} {a : Nat} (h : L.length ≤ a) (hl : a ≤ 65536) : sgl L (nI a) = -1 := by
  rw [sgl, if_pos (le0 h (by omega))]
theorem sgc_some {L : List Int32} {a : Nat} (h : a < L.length) (hl : L.length ≤ 65536) (b : Int32) : sgc L (nI a) b = rs L (nI L.length - 1) b := by
  rw [sgc, nI_sub (by omega), if_neg (nI_nle (by omega) (by omega))]
theorem c27_7 : (1 : Int32) <<< ((27 - 7 : Int32) &&& 31) - 1 = 1048575 := by decide +kernel
theorem c27_8 : (1 : Int32) <<< ((27 - 8 : Int32) &&& 31) - 1 = 524287 := by decide +kernel
theorem ush_eq {x : Nat} (h : x < 2 ^ 31) (k : Nat) (hk : k < 32) : jushr (nI x) (nI k) = nI x >>> (nI k &&& 31) := by
  rw [pk_shrN h _ k (sh_k k hk)]
  have hs : ∀ k, k < 32 → (((nI k).toUInt32 &&& Int32.toUInt32 31).toBitVec % 32).toNat = k := by decide +kernel
  exact pk_ushrN (by omega) (nI k) k (hs k hk)
/-- the same byte goes out of the same register -/
theorem bo3_mb3 {x n : Nat} {L : List Int32} (hx : x < 2 ^ 31) (hl : L.length < 65536) (hb : bok L) (r : Nat) (hr : r = 7 ∨ r = 8) :
    (bo3 (nI x) (nI r) n L).1 = (mb3 (nI x) (nI r) L).1 ∧ (bo3 (nI x) (nI r) n L).2.1 = (mb3 (nI x) (nI r) L).2.1 ∧ (bo3 (nI x) (nI r) n L).2.2.2 = (mb3 (nI x) (nI r) L).2.2 ∧ bok (mb3 (nI x) (nI r) L).2.2 ∧ (mb3 (nI x) (nI r) L).2.1 = nI r ∧ ∃ j : Nat, j < 2 ^ (27 - r) ∧ (mb3 (nI x) (nI r) L).1 = nI j := by
  have hsh : jushr (nI x) (27 - nI r) = nI x >>> ((27 - nI r) &&& 31) := by
    rw [show (27 : Int32) - nI r = nI (27 - r) from (show nI 27 - nI r = nI (27 - r) from nI_sub (by omega))]
    exact ush_eq hx (27 - r) (by omega)
  refine ⟨rfl, rfl, ?_, ?_, rfl, ?_⟩
  · rw [bo3, mb3]; dsimp only; rw [hsh, app, if_pos hl]
  · rw [mb3]
    exact bok_app hb (pk_andE _ 8 (by decide +kernel))
  · rw [mb3]
    rcases hr with rfl | rfl
    · show ∃ j : Nat, j < 2 ^ 20 ∧ nI x &&& (1 <<< ((27 - 7 : Int32) &&& 31) - 1) = nI j
      rw [c27_7]; exact pk_andE _ 20 (by decide +kernel)
    · show ∃ j : Nat, j < 2 ^ 19 ∧ nI x &&& (1 <<< ((27 - 8 : Int32) &&& 31) - 1) = nI j
      rw [c27_8]; exact pk_andE _ 19 (by decide +kernel)
theorem mkc_0 (L : List Int32) (bg x : Int32) : mkc L bg 0 x = (if mtk L bg = 0 then 0 else if x < 134217728 then 0 else 1) := by
  rw [mkc, show (1 : Int32) <<< ((27 - 0 : Int32) &&& 31) = 134217728 by decide +kernel]
theorem mcy_0 (x : Int32) : mcy 0 x = 0 := by rw [mcy, if_pos rfl]
theorem mcy_1 : mcy 1 0 = 134217728 := by decide +kernel
/-- what a byte that goes out leaves behind, in both -/
def boq (p : Int32 × Int32 × Nat × List Int32) (q : Int32 × Int32 × List Int32) : Prop :=
  p.1 = q.1 ∧ p.2.1 = q.2.1 ∧ p.2.2.2 = q.2.2 ∧ bok q.2.2 ∧ ∃ r : Nat, (r = 7 ∨ r = 8) ∧ q.2.1 = nI r ∧ ∃ j : Nat, j < 2 ^ (27 - r) ∧ q.1 = nI j
theorem boq_3 {x n : Nat} {L : List Int32} (hx : x < 2 ^ 31) (hl : L.length < 65536) (hb : bok L) (r : Nat) (hr : r = 7 ∨ r = 8) : boq (bo3 (nI x) (nI r) n L) (mb3 (nI x) (nI r) L) := by
  obtain ⟨h1, h2, h3, h4, h5, h6⟩ := bo3_mb3 (n := n) hx hl hb r hr
  exact ⟨h1, h2, h3, h4, r, hr, h5, h6⟩
theorem bo_mbo {a x n : Nat} {L : List Int32} (hx : x < 2 ^ 28) (ha : a ≤ L.length) (hl : L.length < 65536) (hb : bok L) : boq (bo (nI a) (nI x) n L) (mbo (nI a) (nI x - mcy (mkc L (nI a) 0 (nI x)) 0) (mkc L (nI a) 0 (nI x)) L) := by
  have h7 := fun (x : Nat) (hx : x < 2 ^ 31) (L : List Int32) (hl : L.length < 65536) (hb : bok L) => boq_3 (n := n) hx hl hb 7 (Or.inl rfl)
  have h8 := fun (x : Nat) (hx : x < 2 ^ 31) (L : List Int32) (hl : L.length < 65536) (hb : bok L) => boq_3 (n := n) hx hl hb 8 (Or.inr rfl)
  rw [mkc_0]
  rcases Nat.lt_or_ge a L.length with c | c
  · have hs := sgl_some c (Nat.le_of_lt hl)
    have hna : ¬ nI L.length ≤ nI a := nI_ge c (by omega)
    obtain ⟨v, hv, ev⟩ := mlast_bok hb
    rw [bo, hs, ev, if_neg (show ¬ nI v = -1 from fun q => absurd (congrArg Int32.toInt q) (by rw [nI_toInt (by omega), show (-1 : Int32).toInt = -1 from rfl]; omega))]
    by_cases c2 : v = 255
    · subst c2
      have hm : mtk L (nI a) = 0 := by rw [mtk, if_neg hna, ev, if_pos (by decide)]
      have e255 : nI 255 = 255 := rfl
      rw [if_pos e255, if_pos hm, mcy_0, Int32.sub_zero, bo2, if_pos e255, mbo, if_pos rfl, mb2, if_neg hna, ev, if_pos e255]
      exact h7 x (by omega) L hl hb
    · have hm : mtk L (nI a) = 1 := by rw [mtk, if_neg hna, ev, if_neg (show ¬ (255 : Int32) ≤ nI v from (show ¬ nI 255 ≤ nI v from nI_ge (by omega) (by decide)))]
      have c3 : ¬ nI v = 255 := fun q => c2 ((nI_eq (b := 255) (by omega) (by decide)).mp q)
      rw [if_neg c3, hm, if_neg (show ¬ (1 : Int32) = 0 by decide)]
      rcases Nat.lt_or_ge x 134217728 with c4 | c4
      · have c5 : nI x < 134217728 := (show nI x < nI 134217728 from nI_lt c4 (by decide))
        rw [if_pos c5, if_pos c5, mcy_0, Int32.sub_zero, bo2, if_neg c3, mbo, if_pos rfl, mb2, if_neg hna, ev, if_neg c3]
        exact h8 x (by omega) L hl hb
      · have c5 : ¬ nI x < 134217728 := (show ¬ nI x < nI 134217728 from nI_nlt c4 (by omega))
        have hlr : (rs L (nI L.length - 1) (nI v + 1)).length = L.length := rs_len _ _
        have hml : mlast (rs L (nI L.length - 1) (nI v + 1)) = nI v + 1 := mlast_rs (Nat.le_of_lt hl) (by omega) _
        have hbr : bok (rs L (nI L.length - 1) (nI v + 1)) := bok_rs hb ⟨v + 1, by omega, nI_1 v⟩
        rw [if_neg c5, if_neg c5, mcy_1, sgc_some c (Nat.le_of_lt hl), mbo, if_neg (by decide), ev, mb2, hlr, if_neg hna, hml, bo2, show nI x - 134217728 = nI (x - 134217728) from (show nI x - nI 134217728 = nI (x - 134217728) from nI_sub c4)]
        by_cases c6 : nI v + 1 = 255
        · rw [if_pos c6, if_pos c6]
          exact h7 _ (by omega) _ (by rw [hlr]; exact hl) hbr
        · rw [if_neg c6, if_neg c6]
          exact h8 _ (by omega) _ (by rw [hlr]; exact hl) hbr
  · have hs := sgl_none c (by omega)
    have hna : nI L.length ≤ nI a := nI_le c (by omega)
    have hm : mtk L (nI a) = 0 := by rw [mtk, if_pos hna]
    rw [bo, hs, if_pos rfl, if_pos hm, mcy_0, Int32.sub_zero, bo2, if_neg (by decide), mbo, if_pos rfl, mb2, if_pos hna]
    exact h8 x (by omega) L hl hb

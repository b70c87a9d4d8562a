/-! the end of a segment -/
theorem cpl_r {L : List Int32} {bg : Int32} {r x : Nat} (h2 : r ≤ 12) (hx : x < 2 ^ (28 - r)) :
    mkc L bg 0 (nI (x * 2 ^ r)) = mkc L bg (nI r) (nI x) ∧ (nI x - mcy (mkc L bg (nI r) (nI x)) (nI r)) <<< (nI r &&& 31) = nI (x * 2 ^ r) - mcy (mkc L bg (nI r) (nI x)) 0 ∧ x * 2 ^ r < 2 ^ 28 := by
  have hp : 0 < 2 ^ r := Nat.two_pow_pos r
  have e28 : 2 ^ (28 - r) * 2 ^ r = 2 ^ 28 := by rw [← Nat.pow_add]; congr 1; omega
  have e27 : 2 ^ (27 - r) * 2 ^ r = 2 ^ 27 := by rw [← Nat.pow_add]; congr 1; omega
  have hlt : x * 2 ^ r < 2 ^ 28 := by rw [← e28]; exact Nat.mul_lt_mul_of_pos_right hx hp
  have e1 := p28 h2
  have e2 := p28c r
  have hiff : x * 2 ^ r < 2 ^ 27 ↔ x < 2 ^ (27 - r) := by
    rw [← e27]
    exact ⟨fun h => Nat.lt_of_mul_lt_mul_right h, fun h => Nat.mul_lt_mul_of_pos_right h hp⟩
  have hk : mkc L bg 0 (nI (x * 2 ^ r)) = mkc L bg (nI r) (nI x) := by
    have k0 : mkc L bg (nI 0) (nI (x * 2 ^ r)) = _ := mkc_n (by omega) (by omega)
    rw [show (0 : Int32) = nI 0 from rfl, k0, mkc_n (by omega) (by omega)]
    show (if mtk L bg = nI 0 then nI 0 else if x * 2 ^ r < 2 ^ 27 then nI 0 else 1) = (if mtk L bg = nI 0 then nI 0 else if x < 2 ^ (27 - r) then nI 0 else 1)
    by_cases c : x < 2 ^ (27 - r)
    · rw [if_pos c, if_pos (hiff.mpr c)]
    · rw [if_neg c, if_neg (fun q => c (hiff.mp q))]
  refine ⟨hk, ?_, hlt⟩
  rw [mcy_n (by omega), show mcy (mkc L bg (nI r) (nI x)) 0 = if mkc L bg (nI r) (nI x) = 0 then 0 else nI (2 ^ 27) from mcy_n (r := 0) (by omega)]
  by_cases c : mkc L bg (nI r) (nI x) = 0
  · rw [if_pos c, if_pos c, Int32.sub_zero, Int32.sub_zero, nI_shl (by omega) (by omega)]
  · rw [if_neg c, if_neg c]
    have hc : 2 ^ (27 - r) ≤ x := by
      rw [mkc_n (by omega) (by omega)] at c
      rcases Nat.lt_or_ge x (2 ^ (27 - r)) with q | q
      · rw [if_pos q] at c; exact absurd (by split <;> rfl) c
      · exact q
    have e3 : (x - 2 ^ (27 - r)) * 2 ^ r = x * 2 ^ r - 2 ^ 27 := by rw [Nat.sub_mul, e27]
    have e4 : 2 ^ 27 ≤ x * 2 ^ r := by rw [← e27]; exact Nat.mul_le_mul_right _ hc
    rw [nI_sub hc, nI_shl (by omega) (by omega), e3, nI_sub e4]
theorem fb_mpu {a x r n : Nat} {L : List Int32} (h2 : r ≤ 12) (hx : x < 2 ^ (28 - r)) (ha : a ≤ L.length) (hl : L.length < 65536) (hb : bok L) :
    boq (fb (nI a) (nI x) (nI r) n L) (mpu (nI a) (nI x - mcy (mkc L (nI a) (nI r) (nI x)) (nI r)) (mkc L (nI a) (nI r) (nI x)) (nI r) L) ∧ (mpu (nI a) (nI x - mcy (mkc L (nI a) (nI r) (nI x)) (nI r)) (mkc L (nI a) (nI r) (nI x)) (nI r) L).2.2.length = L.length + 1 := by
  obtain ⟨k1, k2, k3⟩ := cpl_r (L := L) (bg := nI a) h2 hx
  have hsh : nI x <<< (nI r &&& 31) = nI (x * 2 ^ r) := nI_shl (by omega) (by omega)
  rw [fb, mpu, hsh, k2, ← k1]
  exact ⟨bo_mbo k3 ha hl hb, mbo_len _ _ _ _⟩
/-- a row that a segment has made, in both -/
def Lq (a n : Nat) (P Q : List Int32) : Prop := P = Q ∧ bok Q ∧ a ≤ Q.length ∧ Q.length ≤ n
theorem or_16 (x : Nat) : x ≤ x ||| 65535 ∧ 65535 ≤ x ||| 65535 ∧ x ||| 65535 < x + 65536 := by
  refine ⟨Nat.left_le_or, Nat.right_le_or, ?_⟩
  have h : (x ||| 65535) >>> 16 = x >>> 16 := by rw [Nat.shiftRight_or_distrib]; simp
  rw [Nat.shiftRight_eq_div_pow, Nat.shiftRight_eq_div_pow] at h
  omega
theorem ew0_mc0 {a n : Nat} {lo sz rm Mlo cd wd Mrm : Int32} {L : List Int32} (h : CWR a lo sz rm Mlo cd wd Mrm L) (hl : L.length + 2 ≤ 65536) : Lq a (L.length + 2) (ew0 (nI a) lo sz rm n L).2.2.2 (mc0 (nI a) Mlo cd wd Mrm L).2.2.2 := by
  obtain ⟨x, s, r, rfl, rfl, rfl, rfl, rfl, ⟨k1, k2, k3, k4, k5⟩, h1, h2, rfl, rfl⟩ := h
  obtain ⟨o1, o2, o3⟩ := or_16 x
  have hp28 := p28c r
  have e5 : nI x - mcy (mkc L (nI a) (nI r) (nI x)) (nI r) + mcy (mkc L (nI a) (nI r) (nI x)) (nI r) = nI x := Int32.sub_add_cancel _ _
  have eo : nI x ||| 65535 = nI (x ||| 65535) := nI_or x 65535
  obtain ⟨v, hv, e1, e2⟩ : ∃ v : Nat, v < 2 ^ (28 - r) ∧ ew0l (nI x) (nI s) = nI v ∧ mcv (nI x - mcy (mkc L (nI a) (nI r) (nI x)) (nI r)) (mkc L (nI a) (nI r) (nI x)) (nI s) (nI r) = nI v := by
    rw [ew0l, mcv, e5, eo, nI_add]
    rcases Nat.lt_or_ge (x ||| 65535) (x + s) with q | q
    · rw [if_neg (nI_ge q (by omega)), if_pos (nI_lt q (by omega))]
      exact ⟨_, by omega, rfl, rfl⟩
    · rw [if_pos (nI_le q (by omega)), if_neg (nI_nlt q (by omega)), show nI (x ||| 65535) - 32768 = nI ((x ||| 65535) - 32768) from (show nI (x ||| 65535) - nI 32768 = nI ((x ||| 65535) - 32768) from nI_sub (by omega))]
      exact ⟨_, by omega, rfl, rfl⟩
  rw [ew0, mc0, e1, e2, mck, mc2]
  dsimp only
  obtain ⟨hb, hlen⟩ := fb_mpu (a := a) (x := v) (r := r) (n := n) (L := L) k3 hv k4 (by omega) k5
  generalize mpu (nI a) (nI v - mcy (mkc L (nI a) (nI r) (nI v)) (nI r)) (mkc L (nI a) (nI r) (nI v)) (nI r) L = q at hb hlen ⊢
  generalize fb (nI a) (nI v) (nI r) n L = q2 at hb ⊢
  obtain ⟨b1, b2, b3, b4, r1, b5, b6, x1, b7, b8⟩ := hb
  rw [b1, b2, b3, b6, b8]
  have hr12 : r1 ≤ 12 := by omega
  have e6 := p28 hr12
  have hk0 : mkc q.2.2 (nI a) (nI r1) (nI x1) = 0 := mkc_lt (by omega) b7
  obtain ⟨hb2, hlen2⟩ := fb_mpu (a := a) (x := x1) (r := r1) (n := q2.2.2.1) (L := q.2.2) hr12 (by omega) (by omega) (by omega) b4
  rw [hk0, mcy_0, Int32.sub_zero] at hb2 hlen2
  exact ⟨hb2.2.2.1, hb2.2.2.2.1, by omega, by omega⟩
theorem ew1_0 {t : Nat} {a y lo rm : Int32} {n : Nat} {L : List Int32} (h : y ≤ 0) : ew1 t a y lo rm n L = (lo, rm, n, L) := by
  cases t with
  | zero => rfl
  | succ t => rw [ew1, if_pos h]
theorem mcw_0 {t : Nat} {bg y lo cd rm : Int32} {L : List Int32} (h : y ≤ 0) : mcw t bg y lo cd rm L = (lo, cd, rm, L) := by
  cases t with
  | zero => rfl
  | succ t => rw [mcw, if_pos h]
theorem ew1_mcw (T : Nat) : ∀ (t j a x r n : Nat) (L : List Int32), j ≤ 7 * T → j ≤ 7 * t → r ≤ 12 → x < 2 ^ (28 - r) → a ≤ L.length → L.length + T ≤ 65536 → bok L →
    Lq a (L.length + T) (ew1 t (nI a) (nI j) (nI x) (nI r) n L).2.2.2 (mcw T (nI a) (nI j) (nI x - mcy (mkc L (nI a) (nI r) (nI x)) (nI r)) (mkc L (nI a) (nI r) (nI x)) (nI r) L).2.2.2 := by
  induction T with
  | zero =>
    intro t j a x r n L h1 h2 h3 h4 h5 h6 h7
    obtain rfl : j = 0 := by omega
    rw [ew1_0 (by decide), mcw_0 (by decide)]
    exact ⟨rfl, h7, h5, by dsimp only; omega⟩
  | succ T ih =>
    intro t j a x r n L h1 h2 h3 h4 h5 h6 h7
    rcases Nat.eq_zero_or_pos j with q | q
    · subst q
      rw [ew1_0 (by decide), mcw_0 (by decide)]
      exact ⟨rfl, h7, h5, by dsimp only; omega⟩
    obtain ⟨t, rfl⟩ : ∃ t', t = t' + 1 := ⟨t - 1, by omega⟩
    have c0 : ¬ nI j ≤ 0 := nI_nle q (by omega)
    rw [ew1, mcw, if_neg c0, if_neg c0]
    obtain ⟨hb, hlen⟩ := fb_mpu (a := a) (x := x) (r := r) (n := n) (L := L) h3 h4 h5 (by omega) h7
    generalize mpu (nI a) (nI x - mcy (mkc L (nI a) (nI r) (nI x)) (nI r)) (mkc L (nI a) (nI r) (nI x)) (nI r) L = p at hb hlen ⊢
    generalize fb (nI a) (nI x) (nI r) n L = p2 at hb ⊢
    obtain ⟨b1, b2, b3, b4, r1, b5, b6, x1, b7, b8⟩ := hb
    rw [b1, b2, b3, b6, b8]
    have hr12 : r1 ≤ 12 := by omega
    have e6 := p28 hr12
    rcases Nat.lt_or_ge j r1 with c | c
    · have hle : nI j - nI r1 ≤ 0 := le0 (Nat.le_of_lt c) (by omega)
      rw [ew1_0 hle, mcw_0 hle]
      exact ⟨rfl, b4, by dsimp only; omega, by dsimp only; omega⟩
    · rw [nI_sub c]
      have hk0 : mkc p.2.2 (nI a) (nI r1) (nI x1) = 0 := mkc_lt (by omega) b7
      have h9 := ih t (j - r1) a x1 r1 p2.2.2.1 p.2.2 (by omega) (by omega) hr12 (by omega) (by omega) (by omega) b4
      rw [hk0, mcy_0, Int32.sub_zero] at h9
      exact ⟨h9.1, h9.2.1, h9.2.2.1, by have := h9.2.2.2; omega⟩
theorem rwe_mcl (r : Nat) : ∀ (T i a n : Nat) (L : List Int32), r ≤ T → r ≤ 8 → i + r < 1000 → a ≤ L.length → L.length ≤ 65535 → bok L → (r = 0 ∨ a < L.length) →
    Lq a L.length (rwe r (nI a) (nI i) (nI r) n L).2.2 (mcl T (nI a) (nI (i % 2)) (nI r) L).2 := by
  induction r with
  | zero =>
    intro T i a n L _ _ _ h4 h5 h6 h7
    have e : mcl T (nI a) (nI (i % 2)) (nI 0) L = (nI 0, L) := by
      cases T with
      | zero => rfl
      | succ T => rw [mcl, if_pos (by decide)]
    rw [e]
    exact ⟨rfl, h6, h4, Nat.le_refl _⟩
  | succ r ih =>
    intro T i a n L h1 h2 h3 h4 h5 h6 h7
    obtain ⟨T, rfl⟩ : ∃ T', T = T' + 1 := ⟨T - 1, by omega⟩
    have hal : a < L.length := h7.resolve_left (by omega)
    have c0 : ¬ nI (r + 1) ≤ 0 := nI_nle (by omega) (by omega)
    have c1 : ¬ nI (r + 1) = 0 := nI_ne0 (by omega) (by omega)
    have eb : nI i &&& 1 = nI (i % 2) := pk_andN (by omega) 1 (by decide +kernel)
    have hbit : nI (i % 2) = 0 ∨ nI (i % 2) = 1 := by
      rcases (show i % 2 = 0 ∨ i % 2 = 1 by omega) with q | q
      · rw [q]; exact Or.inl rfl
      · rw [q]; exact Or.inr rfl
    have hq := rad_mrw (a := a) (n := n) (rw := nI (r + 1)) (Mrm := nI (r + 1)) (b := nI (i % 2)) (L := L) ⟨r + 1, rfl, rfl, h2, h4, h6, Or.inr hal⟩ (by omega) hbit
    have e1 : (rad (nI a) (nI (r + 1)) n L (nI (i % 2))).1 = nI r := by rw [rad, if_neg c1, ra2]; exact nI_pred r
    have e2 : (mrw (nI a) (nI (r + 1)) L (nI (i % 2))).1 = nI r := by rw [mrw, if_neg c1, mr2]; exact nI_pred r
    have e3 : (mrw (nI a) (nI (r + 1)) L (nI (i % 2))).2.length = L.length := by rw [mrw, if_neg c1, mr2]; exact rs_len _ _
    have e4 : (1 : Int32) - nI (i % 2) = nI ((i + 1) % 2) := by
      rcases (show i % 2 = 0 ∨ i % 2 = 1 by omega) with q | q
      · rw [q, show (i + 1) % 2 = 1 by omega]; rfl
      · rw [q, show (i + 1) % 2 = 0 by omega]; rfl
    rw [rwe, mcl, if_neg c0, eb, e1, e2, hq.1, e4, nI_1]
    obtain ⟨r9, -, -, -, -, hb9, -⟩ := hq.2
    have h9 := ih T (i + 1) a (rad (nI a) (nI (r + 1)) n L (nI (i % 2))).2.1 (mrw (nI a) (nI (r + 1)) L (nI (i % 2))).2 (by omega) (by omega) (by omega) (by omega) (by omega) hb9 (Or.inr (by omega))
    rw [e3] at h9
    exact h9
theorem sgd_mcD {a n : Nat} {P Q : List Int32} (h : Lq a n P Q) (hn : n ≤ 65536) : Lq a n (sgd P (nI a)) (mcD Q (nI a)) := by
  obtain ⟨rfl, h1, h2, h3⟩ := h
  rw [sgd, mcD]
  rcases Nat.lt_or_ge a P.length with c | c
  · rw [sgl_some c (by omega), if_neg (nI_ge c (by omega))]
    by_cases c2 : mlast P = 255
    · rw [if_pos c2]
      exact ⟨rfl, bok_drop h1, by rw [List.length_dropLast]; omega, by rw [List.length_dropLast]; omega⟩
    · rw [if_neg c2]; exact ⟨rfl, h1, h2, h3⟩
  · rw [sgl_none c (by omega), if_neg (by decide), if_pos (nI_le c (by omega))]
    exact ⟨rfl, h1, h2, h3⟩
theorem cl0_mcb {a n : Nat} {sr lo sz rm rw Mlo cd wd Mrm y : Int32} {L : List Int32} (h : WR a sr lo sz rm rw Mlo cd wd Mrm L) (hl : L.length + 2 ≤ 65536) :
    Lq a (L.length + 2) (cl0 sr (nI a) lo sz rm rw n L y).2.2.2.2 (mcD (mcb sr (nI a) Mlo cd wd Mrm L y).2.2.2 (nI a)) := by
  rw [cl0, mcb]
  by_cases c : sr = 0
  · rw [if_pos c, if_pos c]
    by_cases c2 : y = 0
    · rw [if_pos c2, if_pos c2]
      dsimp only
      exact sgd_mcD (ew0_mc0 (n := n) (h.1 c) hl) hl
    · rw [if_neg c2, if_neg c2]
      obtain ⟨x, s, r, rfl, rfl, rfl, rfl, rfl, ⟨k1, k2, k3, k4, k5⟩, h1, h2, rfl, rfl⟩ := h.1 c
      dsimp only
      rw [show (12 : Int32) - nI r = nI (12 - r) from (show nI 12 - nI r = nI (12 - r) from nI_sub k3)]
      exact sgd_mcD (ew1_mcw 2 12 (12 - r) a x r n L (by omega) (by omega) k3 (by omega) k4 (by omega) k5) hl
  · rw [if_neg c, if_neg c]
    obtain ⟨r, rfl, rfl, h8, ha, hb, hr⟩ := h.2 c
    dsimp only
    rw [nI_clamp (by omega)]
    have h9 := rwe_mcl r 8 0 a n L h8 h8 (by omega) ha (by omega) hb hr
    exact sgd_mcD ⟨h9.1, h9.2.1, h9.2.2.1, Nat.le_trans h9.2.2.2 (Nat.le_add_right _ _)⟩ hl

/-! the reader: the class's value and the reference's distance from the top -/
theorem l_shl {n k : Nat} (hk : k < 64) : lN n <<< ((nI k).toInt64 &&& 63) = lN (n * 2 ^ k) := by
  apply Int64.toBitVec_inj.mp
  apply BitVec.eq_of_toNat_eq
  rw [Int64.toBitVec_shiftLeft, BitVec.shiftLeft_eq', lw_c k hk, BitVec.toNat_shiftLeft, BitVec.toNat_ofNat, Nat.mod_eq_of_lt (a := k) (by omega), Nat.shiftLeft_eq]
  show ((n % 2 ^ 64) * 2 ^ k) % 2 ^ 64 = (n * 2 ^ k) % 2 ^ 64
  rw [Nat.mod_mul_mod]
theorem l_sub {x y : Int64} {a b : Int} (hx : x.toInt = a) (hy : y.toInt = b) (h1 : -9223372036854775808 ≤ a - b) (h2 : a - b < 9223372036854775808) : (x - y).toInt = a - b := by
  rw [Int64.toInt_sub, hx, hy, Int.bmod_def]; split <;> omega
theorem l_add {x y : Int64} {a b : Int} (hx : x.toInt = a) (hy : y.toInt = b) (h1 : -9223372036854775808 ≤ a + b) (h2 : a + b < 9223372036854775808) : (x + y).toInt = a + b := by
  rw [Int64.toInt_add, hx, hy, Int.bmod_def]; split <;> omega
theorem l_two {x : Int64} {a : Int} (hx : x.toInt = a) (h1 : -9223372036854775808 ≤ 2 * a + 1) (h2 : 2 * a + 1 < 9223372036854775808) : (2 * x + 1).toInt = 2 * a + 1 := by
  refine l_add (x := 2 * x) (y := 1) (a := 2 * a) (b := 1) ?_ rfl h1 h2
  rw [Int64.toInt_mul, hx, show (2 : Int64).toInt = 2 from rfl, Int.bmod_def]; split <;> omega
theorem l_shr32 {x : Int64} {w : Nat} (h : x.toInt = (w : Int)) : (x >>> ((32 : Int32).toInt64 &&& 63)).toInt = (w : Int) / 4294967296 := by
  show (x >>> ((nI 32).toInt64 &&& 63)).toInt = _
  rw [← Int64.toInt_toBitVec, Int64.toBitVec_shiftRight, BitVec.sshiftRight_eq', lw_c 32 (by omega), BitVec.toInt_sshiftRight, BitVec.toNat_ofNat, Int64.toInt_toBitVec, h, Int.shiftRight_eq_div_pow]
  rfl
theorem s_16 {s : Nat} (hs : s < 65536) : (nI s).toInt64 <<< ((16 : Int32).toInt64 &&& 63) = lN (s * 65536) := by
  rw [nI_l (by omega)]; exact l_shl (k := 16) (by omega)
theorem mrd_ok {s w : Nat} {av : Int64} (hs : s < 65536) (hw : w < 8589934592) (h : av.toInt = (s : Int) * 65536 - 1 - (w : Int)) : (mrd (nI s) av).toInt = (s : Int) * 65536 - 1 - ((w % 4294967296 : Nat) : Int) := by
  have e2 : ((nI s).toInt64 <<< ((16 : Int32).toInt64 &&& 63) - 1 - av).toInt = (w : Int) := by
    rw [s_16 hs, l_sub (l_sub (pk_lT (by omega)) (show (1 : Int64).toInt = 1 from rfl) (by omega) (by omega)) h (by omega) (by omega)]; omega
  have e3 := l_shr32 e2
  unfold mrd
  by_cases c : w < 4294967296
  · rw [if_pos ((lg_cmp_eq _ _).mpr (Int64.toInt_inj.mp (by rw [e3, show (0 : Int64).toInt = 0 from rfl]; omega))), h, Nat.mod_eq_of_lt c]
  · rw [if_neg (fun q => by have q1 := congrArg Int64.toInt ((lg_cmp_eq _ _).mp q); rw [e3, show (0 : Int64).toInt = 0 from rfl] at q1; omega), l_add h (show (4294967296 : Int64).toInt = 4294967296 from rfl) (by omega) (by omega)]
    omega
theorem spk_min {L : List Int32} {pl : Int32} {j l : Nat} (hj : j < 2 ^ 31) (hl : l ≤ 65536) : spk L pl (nI l) (nI (min j l)) = spk L pl (nI l) (nI j) ∧ scm (nI l) (nI (min j l)) = nI (min (j + 1) l) := by
  unfold spk scm
  rcases Nat.lt_or_ge j l with c | c
  · rw [Nat.min_eq_left (by omega), Nat.min_eq_left (by omega)]
    exact ⟨rfl, by rw [if_neg (nI_ge c (by omega))]; exact nI_1 j⟩
  · rw [Nat.min_eq_right c, Nat.min_eq_right (by omega)]
    exact ⟨by rw [if_pos (Int32.le_refl _), if_pos (nI_le c hj)], by rw [if_pos (Int32.le_refl _)]⟩
theorem spk_b {L : List Int32} (hb : bok L) (pl ln x : Int32) : ∃ q : Nat, q < 256 ∧ spk L pl ln x = nI q := by
  unfold spk
  split
  · exact ⟨255, by omega, rfl⟩
  · exact rb_bok hb _
theorem nI_mod (n : Nat) : nI n = nI (n % 4294967296) := by
  apply Int32.toBitVec_inj.mp
  apply BitVec.eq_of_toNat_eq
  show n % 2 ^ 32 = (n % 4294967296) % 2 ^ 32
  omega
/-- the next byte goes into both -/
theorem rbi_mci {L : List Int32} (hb : bok L) (pl : Int32) {b v j l : Nat} (hbb : b < 256) (hj : j + 1 < 2 ^ 31) (hl : l ≤ 65536) : ∃ b' d r' j' : Nat, rbi L pl (nI l) (nI b) (nI v) (nI (min j l)) = (nI b', nI (v + d), nI r', nI (min j' l)) ∧ mci L pl (nI l) (nI j) (nI b) = (nI d, nI r', nI b', nI j') ∧ b' < 256 ∧ d ≤ 73216 ∧ 1 ≤ r' ∧ r' ≤ 8 ∧ j' ≤ j + 1 := by
  obtain ⟨e1, e2⟩ := spk_min (L := L) (pl := pl) (j := j) (l := l) (by omega) hl
  obtain ⟨q, hq, e3⟩ := spk_b hb pl (nI l) (nI j)
  unfold rbi mci
  rw [e1, e2, e3]
  have s9 : nI q <<< ((9 : Int32) &&& 31) = nI (q * 512) := nI_shl (a := q) (d := 9) (by omega) (by omega)
  have s8 : nI q <<< ((8 : Int32) &&& 31) = nI (q * 256) := nI_shl (a := q) (d := 8) (by omega) (by omega)
  rw [s9, s8]
  by_cases c : nI b = 255
  · rw [if_pos c, if_pos c]
    by_cases c2 : nI q ≤ 143
    · rw [if_pos c2, if_pos c2]
      have h4 : q ≤ 143 := (nI_leI (b := 143) (by omega) (by decide)).mp c2
      exact ⟨q, q * 512, 7, j + 1, by rw [nI_add]; rfl, by rw [nI_1]; rfl, by omega, by omega, by omega, by omega, by omega⟩
    · rw [if_neg c2, if_neg c2]
      exact ⟨b, 65280, 8, j, by rw [← nI_add]; rfl, rfl, by omega, by omega, by omega, by omega, by omega⟩
  · rw [if_neg c, if_neg c]
    exact ⟨q, q * 256, 8, j + 1, by rw [nI_add]; rfl, by rw [nI_1]; rfl, by omega, by omega, by omega, by omega, by omega⟩
/-- the coded reader, in both; T more bytes don't overflow the count -/
def CRR (T : Nat) (ln la va sz rm cm sp : Int32) (av : Int64) (le Mla nx : Int32) : Prop := ∃ s v r b j l : Nat, sz = nI s ∧ sp = nI s ∧ s < 65536 ∧ va = nI v ∧ v < 4294967296 ∧ av.toInt = (s : Int) * 65536 - 1 - (v : Int) ∧ rm = nI r ∧ le = nI r ∧ r ≤ 8 ∧ la = nI b ∧ Mla = nI b ∧ b < 256 ∧ nx = nI j ∧ ln = nI l ∧ l ≤ 65536 ∧ cm = nI (min j l) ∧ j + T < 2 ^ 31
theorem CRR_m {S T : Nat} {ln la va sz rm cm sp : Int32} {av : Int64} {le Mla nx : Int32} (h : CRR T ln la va sz rm cm sp av le Mla nx) (hs : S ≤ T) : CRR S ln la va sz rm cm sp av le Mla nx := by
  obtain ⟨s, v, r, b, j, l, h1, h2, h3, h4, h5, h6, h7, h8, h9, g1, g2, g3, g4, g5, g6, g7, g8⟩ := h
  exact ⟨s, v, r, b, j, l, h1, h2, h3, h4, h5, h6, h7, h8, h9, g1, g2, g3, g4, g5, g6, g7, by omega⟩
theorem ren_mrl (t : Nat) : ∀ (L : List Int32) (pl : Int32) (T : Nat) (ln la va sz rm cm sp : Int32) (av : Int64) (le Mla nx : Int32), bok L → CRR (t + T) ln la va sz rm cm sp av le Mla nx →
    CRR T ln (ren t L pl ln la va sz rm cm).1 (ren t L pl ln la va sz rm cm).2.1 (ren t L pl ln la va sz rm cm).2.2.1 (ren t L pl ln la va sz rm cm).2.2.2.1 (ren t L pl ln la va sz rm cm).2.2.2.2 (mrl t L pl ln sp av le Mla nx).1 (mrl t L pl ln sp av le Mla nx).2.1 (mrl t L pl ln sp av le Mla nx).2.2.1 (mrl t L pl ln sp av le Mla nx).2.2.2.1 (mrl t L pl ln sp av le Mla nx).2.2.2.2 := by
  induction t with
  | zero => intro L pl T ln la va sz rm cm sp av le Mla nx hb h; exact CRR_m h (by omega)
  | succ t ih =>
    intro L pl T ln la va sz rm cm sp av le Mla nx hb h
    have h0 := h
    obtain ⟨s, v, r, b, j, l, rfl, rfl, hs, rfl, hv, hav, rfl, rfl, hr, rfl, rfl, hbb, rfl, rfl, hl, rfl, hj⟩ := h
    rw [ren, mrl]
    by_cases c : s < 32768
    · rw [if_neg (show ¬ (32768 : Int32) ≤ nI s from w_lt c), if_neg (show ¬ (32768 : Int32) ≤ nI s from w_lt c), nI_mul2, nI_add, show s + s = s * 2 by omega]
      by_cases c2 : nI r = 0
      · rw [if_pos c2, if_pos c2]
        obtain ⟨b', d, r', j', e1, e2, k1, k2, k3, k4, k5⟩ := rbi_mci hb pl (b := b) (v := v) (j := j) (l := l) hbb (by omega) hl
        rw [e1, e2]
        dsimp only
        have m1 : (mrd (nI s) (av - (nI d).toInt64)).toInt = (s : Int) * 65536 - 1 - (((v + d) % 4294967296 : Nat) : Int) := by
          refine mrd_ok hs (by omega) ?_
          rw [nI_l (by omega), l_sub hav (pk_lT (by omega)) (by omega) (by omega)]; omega
        have m2 : (mrd (nI (s * 2)) (2 * mrd (nI s) (av - (nI d).toInt64) + 1)).toInt = ((s * 2 : Nat) : Int) * 65536 - 1 - (((v + d) * 2 % 4294967296 : Nat) : Int) := by
          have m3 := mrd_ok (s := s * 2) (w := 2 * ((v + d) % 4294967296)) (av := 2 * mrd (nI s) (av - (nI d).toInt64) + 1) (by omega) (by omega) (by rw [l_two m1 (by omega) (by omega)]; omega)
          rw [m3]; omega
        refine ih L pl T _ _ _ _ _ _ _ _ _ _ _ hb ⟨s * 2, (v + d) * 2 % 4294967296, r' - 1, b', j', l, rfl, rfl, by omega, ?_, by omega, m2, ?_, ?_, by omega, rfl, rfl, k1, rfl, rfl, hl, rfl, by omega⟩
        · rw [nI_mul2]; exact nI_mod _
        · exact nI_sub (a := r') (b := 1) k3
        · exact nI_sub (a := r') (b := 1) k3
      · rw [if_neg c2, if_neg c2]
        have hr1 : 1 ≤ r := by
          rcases Nat.eq_zero_or_pos r with q | q
          · subst q; exact absurd rfl c2
          · exact q
        have m2 : (mrd (nI (s * 2)) (2 * av + 1)).toInt = ((s * 2 : Nat) : Int) * 65536 - 1 - ((v * 2 % 4294967296 : Nat) : Int) :=
          mrd_ok (s := s * 2) (w := v * 2) (av := 2 * av + 1) (by omega) (by omega) (by rw [l_two hav (by omega) (by omega)]; omega)
        refine ih L pl T _ _ _ _ _ _ _ _ _ _ _ hb ⟨s * 2, v * 2 % 4294967296, r - 1, b, j, l, rfl, rfl, by omega, ?_, by omega, m2, ?_, ?_, by omega, rfl, rfl, hbb, rfl, rfl, hl, rfl, by omega⟩
        · rw [nI_mul2]; exact nI_mod _
        · exact nI_sub (a := r) (b := 1) hr1
        · exact nI_sub (a := r) (b := 1) hr1
    · rw [if_pos (show (32768 : Int32) ≤ nI s from w_le (by omega) (by omega)), if_pos (show (32768 : Int32) ≤ nI s from w_le (by omega) (by omega))]
      exact CRR_m h0 (by omega)

/-! raw bits -/
theorem nI_or (a b : Nat) : nI a ||| nI b = nI (a ||| b) := by
  apply Int32.toBitVec_inj.mp
  apply BitVec.eq_of_toNat_eq
  rw [Int32.toBitVec_or, BitVec.toNat_or]
  show (a % 2 ^ 32) ||| (b % 2 ^ 32) = (a ||| b) % 2 ^ 32
  rw [Nat.or_mod_two_pow]
def RWR (a : Nat) (rw Mrm : Int32) (L : List Int32) : Prop := ∃ r : Nat, rw = nI r ∧ Mrm = nI r ∧ r ≤ 8 ∧ a ≤ L.length ∧ bok L ∧ (r = 0 ∨ a < L.length)
theorem ra2_mr2 {a r n : Nat} {L : List Int32} {b : Int32} (h : a < L.length) (hl : L.length ≤ 65536) (hb : bok L) (h1 : 1 ≤ r) (h8 : r ≤ 8) (hbit : b = 0 ∨ b = 1) :
    (ra2 (nI a) (nI r) n L b).2.2 = (mr2 (nI r) L b).2 ∧ RWR a (ra2 (nI a) (nI r) n L b).1 (mr2 (nI r) L b).1 (mr2 (nI r) L b).2 := by
  have e1 : nI r - 1 = nI (r - 1) := (show nI r - nI 1 = nI (r - 1) from nI_sub h1)
  rw [ra2, mr2]
  dsimp only
  rw [sgl_some h hl, sgc_some h hl, e1]
  refine ⟨rfl, r - 1, rfl, rfl, by omega, by rw [rs_len]; omega, bok_rs hb ?_, Or.inr (by rw [rs_len]; exact h)⟩
  obtain ⟨v, hv, ev⟩ := mlast_bok hb
  have hp : 2 ^ (r - 1) ≤ 2 ^ 7 := Nat.pow_le_pow_right (by decide) (by omega)
  obtain ⟨j, hj, ej⟩ : ∃ j : Nat, j ≤ 1 ∧ b = nI j := by
    rcases hbit with rfl | rfl
    · exact ⟨0, by omega, rfl⟩
    · exact ⟨1, by omega, rfl⟩
  have hj2 : j * 2 ^ (r - 1) < 2 ^ 8 := by
    have : j * 2 ^ (r - 1) ≤ 1 * 2 ^ (r - 1) := Nat.mul_le_mul_right _ hj
    omega
  rw [ev, ej, nI_shl (by omega) (by omega), nI_or]
  exact ⟨_, Nat.or_lt_two_pow (n := 8) hv hj2, rfl⟩
theorem rad_mrw {a n : Nat} {rw Mrm b : Int32} {L : List Int32} (h : RWR a rw Mrm L) (hl : L.length < 65536) (hbit : b = 0 ∨ b = 1) :
    (rad (nI a) rw n L b).2.2 = (mrw (nI a) Mrm L b).2 ∧ RWR a (rad (nI a) rw n L b).1 (mrw (nI a) Mrm L b).1 (mrw (nI a) Mrm L b).2 := by
  obtain ⟨r, rfl, rfl, h8, ha, hb, hr⟩ := h
  rw [rad, mrw]
  by_cases c : nI r = 0
  · rw [if_pos c, if_pos c, app, if_pos hl]
    have hb0 : bok (L ++ [(0 : Int32)]) := bok_app hb ⟨0, by omega, rfl⟩
    have hlen : (L ++ [(0 : Int32)]).length = L.length + 1 := len_app1
    have k := fun (r : Nat) (h1 : 1 ≤ r) (h8 : r ≤ 8) => ra2_mr2 (a := a) (n := apn n L) (L := L ++ [(0 : Int32)]) (by omega) (by omega) hb0 h1 h8 hbit
    rcases Nat.lt_or_ge a L.length with q | q
    · rw [sgl_some q (by omega), if_neg (nI_ge q (by omega))]
      by_cases c2 : mlast L = 255
      · rw [if_pos c2, if_pos c2]; exact k 7 (by omega) (by omega)
      · rw [if_neg c2, if_neg c2]; exact k 8 (by omega) (by omega)
    · rw [sgl_none q (by omega), if_neg (by decide), if_pos (nI_le q (by omega))]
      exact k 8 (by omega) (by omega)
  · rw [if_neg c, if_neg c]
    have hr1 : 1 ≤ r := by
      rcases Nat.eq_zero_or_pos r with q | q
      · subst q; exact absurd rfl c
      · exact q
    exact ra2_mr2 (hr.resolve_left (by omega)) (by omega) hb hr1 h8 hbit
/-! the bits of a long -/
theorem lw_c : ∀ k, k < 64 → ((nI k).toInt64 &&& 63).toBitVec.smod 64 = BitVec.ofNat 64 k := by decide +kernel
theorem lw_u : ∀ k, k < 64 → (((nI k).toInt64.toUInt64 &&& Int64.toUInt64 63).toBitVec % 64).toNat = k := by decide +kernel
theorem bit_eq {t : Nat} (ht : t < 64) (w : Int64) : bitw w t = mbit w t := by
  have h1 : ∀ i : Nat, (jlushr w (nI t)).toBitVec.getLsbD i = w.toBitVec.getLsbD (t + i) := fun i => by
    unfold jlushr
    show ((w.toUInt64 >>> _).toBitVec).getLsbD i = _
    rw [UInt64.toBitVec_shiftRight, BitVec.ushiftRight_eq', BitVec.getLsbD_ushiftRight, lw_u t ht]; rfl
  have h2 : ∀ i : Nat, t + i < 64 → (w >>> ((nI t).toInt64 &&& 63)).toBitVec.getLsbD i = w.toBitVec.getLsbD (t + i) := fun i hi => by
    rw [Int64.toBitVec_shiftRight, BitVec.sshiftRight_eq', lw_c t ht, BitVec.getLsbD_sshiftRight, BitVec.toNat_ofNat, Nat.mod_eq_of_lt (by omega), if_pos hi]
    simp; omega
  apply Int32.toBitVec_inj.mp
  apply BitVec.eq_of_getLsbD_eq
  intro i hi
  unfold bitw mbit
  rw [Int32.toBitVec_and, BitVec.getLsbD_and, Int64.toBitVec_toInt32, Int64.toBitVec_toInt32, BitVec.getLsbD_signExtend, BitVec.getLsbD_signExtend, if_pos (show i < 64 by omega), if_pos (show i < 64 by omega), Int64.toBitVec_and, BitVec.getLsbD_and, h1]
  have e1 : (1 : Int32).toBitVec.getLsbD i = decide (i = 0) := by
    show (1#32).getLsbD i = _
    rw [BitVec.getLsbD_one]; simp
  have e2 : (1 : Int64).toBitVec.getLsbD i = decide (i = 0) := by
    show (1#64).getLsbD i = _
    rw [BitVec.getLsbD_one]; simp
  rw [e1, e2]
  by_cases c : i = 0
  · subst c; rw [h2 0 (by omega)]; simp
  · simp [c]
theorem mbit_01 {t : Nat} (ht : t < 64) (w : Int64) : mbit w t = 0 ∨ mbit w t = 1 := by
  rw [← bit_eq ht, bitw]
  obtain ⟨j, hj, e⟩ := pk_andE (jlushr w (nI t)).toInt32 (m := 1) 1 (by decide +kernel)
  rw [e]
  rcases (show j = 0 ∨ j = 1 by omega) with rfl | rfl
  · exact Or.inl rfl
  · exact Or.inr rfl
theorem CWR_v {a : Nat} {lo sz rm Mlo cd wd Mrm : Int32} {L : List Int32} (h : CWR a lo sz rm Mlo cd wd Mrm L) : (cd = 0 ∨ ¬ nI L.length ≤ nI a) ∧ mwr Mrm ∧ mww wd := by
  obtain ⟨x, s, r, rfl, rfl, rfl, rfl, rfl, ⟨k1, k2, k3, k4, k5⟩, h1, h2, rfl, rfl⟩ := h
  exact ⟨mkc_hl _ _ _ _, ⟨r, rfl, k2, k3⟩, s, rfl, h1, h2⟩
theorem RWR_v {a : Nat} {rw Mrm : Int32} {L : List Int32} (h : RWR a rw Mrm L) : (∃ r : Nat, Mrm = nI r ∧ r ≤ 8) ∧ (Mrm = 0 ∨ 0 < L.length) := by
  obtain ⟨r, rfl, rfl, h8, ha, hb, hr⟩ := h
  refine ⟨⟨r, rfl, h8⟩, ?_⟩
  rcases hr with q | q
  · subst q; exact Or.inl rfl
  · exact Or.inr (by omega)
/-- the open segment, in both -/
def WR (a : Nat) (sr lo sz rm rw Mlo cd wd Mrm : Int32) (L : List Int32) : Prop := (sr = 0 → CWR a lo sz rm Mlo cd wd Mrm L) ∧ (¬ sr = 0 → RWR a rw Mrm L)
theorem WR_v {a : Nat} {sr lo sz rm rw Mlo cd wd Mrm : Int32} {L : List Int32} {S : Nat → Int32} (h : WR a sr lo sz rm rw Mlo cd wd Mrm L) (hS : sok S) : mwv sr (nI a) cd wd Mrm S L :=
  ⟨hS, fun q => CWR_v (h.1 q), fun q => RWR_v (h.2 q)⟩
theorem WR_u {a : Nat} {sr lo sz rm rw Mlo cd wd Mrm : Int32} {L : List Int32} (h : WR a sr lo sz rm rw Mlo cd wd Mrm L) : mwu sr (nI a) cd Mrm L :=
  ⟨fun q => ⟨(CWR_v (h.1 q)).1, (CWR_v (h.1 q)).2.1⟩, fun q => RWR_v (h.2 q)⟩
theorem wlp_mwq (t : Nat) : ∀ (a n : Nat) (sr x : Int32) (w : Int64) (lo sz rm rw Mlo cd wd Mrm : Int32) (sf lf tf mf S K : Nat → Int32) (L : List Int32), t ≤ 64 → WR a sr lo sz rm rw Mlo cd wd Mrm L → crl sf lf tf mf S K → sok S → (sr = 0 → mot x 0 18 = 0) → L.length + 3 * t + 15 ≤ 65536 →
    WR a sr (wlp t sr (nI a) x w lo sz rm rw sf lf n L).1 (wlp t sr (nI a) x w lo sz rm rw sf lf n L).2.1 (wlp t sr (nI a) x w lo sz rm rw sf lf n L).2.2.1 (wlp t sr (nI a) x w lo sz rm rw sf lf n L).2.2.2.1 (mwq t sr (nI a) x w Mlo cd wd Mrm S K L).1 (mwq t sr (nI a) x w Mlo cd wd Mrm S K L).2.1 (mwq t sr (nI a) x w Mlo cd wd Mrm S K L).2.2.1 (mwq t sr (nI a) x w Mlo cd wd Mrm S K L).2.2.2.1 (mwq t sr (nI a) x w Mlo cd wd Mrm S K L).2.2.2.2.2.2 ∧
    (wlp t sr (nI a) x w lo sz rm rw sf lf n L).2.2.2.2.2.2.2 = (mwq t sr (nI a) x w Mlo cd wd Mrm S K L).2.2.2.2.2.2 ∧
    crl (wlp t sr (nI a) x w lo sz rm rw sf lf n L).2.2.2.2.1 (wlp t sr (nI a) x w lo sz rm rw sf lf n L).2.2.2.2.2.1 tf mf (mwq t sr (nI a) x w Mlo cd wd Mrm S K L).2.2.2.2.1 (mwq t sr (nI a) x w Mlo cd wd Mrm S K L).2.2.2.2.2.1 ∧
    sok (mwq t sr (nI a) x w Mlo cd wd Mrm S K L).2.2.2.2.1 ∧ (mwq t sr (nI a) x w Mlo cd wd Mrm S K L).2.2.2.2.2.2.length ≤ L.length + 3 * t := by
  induction t with
  | zero => intro a n sr x w lo sz rm rw Mlo cd wd Mrm sf lf tf mf S K L _ hw hc hS _ _; exact ⟨hw, rfl, hc, hS, Nat.le_refl _⟩
  | succ t ih =>
    intro a n sr x w lo sz rm rw Mlo cd wd Mrm sf lf tf mf S K L ht hw hc hS hx hl
    rw [wlp, mwq, bit_eq (show t < 64 by omega)]
    by_cases c : sr = 0
    · rw [if_pos c, if_pos c]
      obtain ⟨i, hi, rfl⟩ := mot_ctx (hx c)
      have hv := WR_v hw hS
      have h9 := wad_mwc (n := n) (b := mbit w t) (hw.1 c) hc hS hi (by omega)
      have h8 := mwv_c (K := K) (lo := Mlo) (b := mbit w t) hv c (ctx_in (hx c))
      rw [h9.2.1]
      obtain ⟨g1, g2, g3, g4, g5⟩ := ih a (wad (nI a) lo sz rm sf lf n L (nI i) (mbit w t)).2.2.2.2.2.1 sr (nI i) w _ _ _ rw _ _ _ _ _ _ tf mf _ _ _ (by omega) ⟨fun _ => h9.1, fun q => absurd c q⟩ h9.2.2 h8.1.1 hx (by have := h8.2; omega)
      exact ⟨g1, g2, g3, g4, by have := h8.2; omega⟩
    · rw [if_neg c, if_neg c]
      have hv := WR_v hw hS
      have h9 := rad_mrw (n := n) (b := mbit w t) (hw.2 c) (by omega) (mbit_01 (by omega) w)
      have h8 := mwv_r (b := mbit w t) hv c
      rw [h9.1]
      obtain ⟨g1, g2, g3, g4, g5⟩ := ih a (rad (nI a) rw n L (mbit w t)).2.1 sr x w lo sz rm _ Mlo cd wd _ sf lf tf mf S K _ (by omega) ⟨fun q => absurd q c, fun _ => h9.2⟩ hc hS hx (by have := h8.2; omega)
      exact ⟨g1, g2, g3, g4, by have := h8.2; omega⟩

/-! which exception, in both -/
theorem mth_z {a b c : Int32} : mth a b c ≤ 0 ↔ mth a b c = 0 := by
  unfold mth
  repeat' split
  all_goals decide
theorem isc_mot (x : Int32) : (isc x = 0 ∧ mot x 0 18 = 1) ∨ (isc x = 1 ∧ mot x 0 18 = 0) := by
  unfold isc mot
  by_cases c1 : x < 0
  · rw [if_pos c1, if_pos c1]; exact Or.inl ⟨rfl, rfl⟩
  · rw [if_neg c1, if_neg c1]
    by_cases c2 : (19 : Int32) ≤ x
    · rw [if_pos c2, if_neg (fun q => by
        have q1 := Int32.le_iff_toInt_le.mp q
        have q2 := Int32.le_iff_toInt_le.mp c2
        rw [show (18 : Int32).toInt = 18 from rfl] at q1
        rw [show (19 : Int32).toInt = 19 from rfl] at q2
        omega)]
      exact Or.inl ⟨rfl, rfl⟩
    · rw [if_neg c2, if_pos (Int32.le_iff_toInt_le.mpr (by
        have q2 := Int32.lt_iff_toInt_lt.mp (Int32.not_le.mp c2)
        rw [show (19 : Int32).toInt = 19 from rfl] at q2
        rw [show (18 : Int32).toInt = 18 from rfl]
        omega))]
      exact Or.inr ⟨rfl, rfl⟩
theorem fts_mbd (x y nn : Int32) : (fts x y = 0 ∧ mbd y x nn = 1) ∨ (fts x y = 1 ∧ mbd y x nn = (if mot nn 1 64 = 0 then 0 else 1)) := by
  unfold fts mbd
  by_cases c : y = 0
  · rw [if_pos c, if_pos c]
    rcases isc_mot x with ⟨h1, h2⟩ | ⟨h1, h2⟩
    · rw [h2, if_neg (by decide)]; exact Or.inl ⟨h1, rfl⟩
    · rw [h2, if_pos rfl]; exact Or.inr ⟨h1, rfl⟩
  · rw [if_neg c, if_neg c]
    by_cases c2 : x = -1
    · rw [if_pos c2, if_pos c2, if_pos rfl]; exact Or.inr ⟨rfl, rfl⟩
    · rw [if_neg c2, if_neg c2, if_neg (by decide)]; exact Or.inl ⟨rfl, rfl⟩
theorem pue_mpc {b so u : Int32} {n : Nat} (hu : u = nI n) (hn : n ≤ 65536) : pue b so u = mpc b so u := by
  have h64 : u < 65536 ↔ ¬ u = 65536 := by
    subst hu
    rw [show (65536 : Int32) = nI 65536 from rfl, nI_ltI (by omega) (by decide), nI_eq (by omega) (by decide)]
    omega
  unfold pue mpc mth mot
  by_cases c1 : b < 0
  · simp [c1]
  · by_cases c2 : b ≤ 255
    · by_cases c3 : so = 0
      · by_cases c4 : u = 65536
        · have c5 : ¬ u < 65536 := fun q => (h64.mp q) c4
          simp only [if_neg c1, if_pos c2, if_pos c3, if_neg c5, if_pos c4]; decide
        · have c5 := h64.mpr c4
          simp only [if_neg c1, if_pos c2, if_pos c3, if_pos c5, if_neg c4]; decide
      · simp only [if_neg c1, if_pos c2, if_neg c3, if_true]
    · rw [if_neg c1, if_neg c2, if_neg c1, if_neg c2, if_neg (by decide)]
theorem pred_toInt {n : Nat} (hn : n ≤ 65536) : (nI n - 1).toInt = (n : Int) - 1 := by
  rw [Int32.toInt_sub, nI_toInt (by omega), show (1 : Int32).toInt = 1 from rfl, Int.bmod_def]
  split <;> omega
theorem ate_mac {x u : Int32} {n : Nat} (hu : u = nI n) (hn : n ≤ 65536) : ate x u = mac x u ∧ (ate x u = 0 → (x < 0 ↔ x = -1)) := by
  have e1 : (-1 : Int32).toInt = -1 := rfl
  have e0 : (0 : Int32).toInt = 0 := rfl
  have hp : (u - 1).toInt = u.toInt - 1 := by subst hu; rw [pred_toInt hn, nI_toInt (by omega)]
  have hu0 : 0 ≤ u.toInt := by subst hu; rw [nI_toInt (by omega)]; omega
  unfold ate mac mth mot
  by_cases c1 : x = -1
  · subst c1
    rw [if_pos rfl, if_neg (show ¬ (-1 : Int32) < -1 by decide), if_pos (show (-1 : Int32) ≤ u - 1 from Int32.le_iff_toInt_le.mpr (by rw [hp, e1]; omega))]
    exact ⟨by decide, fun _ => ⟨fun _ => rfl, fun _ => by decide⟩⟩
  · rw [if_neg c1]
    have c1' : x.toInt ≠ -1 := fun q => c1 (Int32.toInt_inj.mp (by rw [q, e1]))
    by_cases c2 : x < 0
    · have q2 := Int32.lt_iff_toInt_lt.mp c2
      rw [if_pos c2, if_pos (show x < -1 from Int32.lt_iff_toInt_lt.mpr (by rw [e1]; omega))]
      exact ⟨by decide, fun h => absurd h (by decide)⟩
    · have q2 := Int32.le_iff_toInt_le.mp (Int32.not_lt.mp c2)
      rw [if_neg c2, if_neg (show ¬ x < -1 from fun q => by have := Int32.lt_iff_toInt_lt.mp q; rw [e1] at this; omega)]
      refine ⟨?_, fun _ => ⟨fun q => absurd q c2, fun q => absurd q c1⟩⟩
      by_cases c3 : x < u
      · have q3 := Int32.lt_iff_toInt_lt.mp c3
        rw [if_pos c3, if_pos (show x ≤ u - 1 from Int32.le_iff_toInt_le.mpr (by rw [hp]; omega))]; decide
      · have q3 := Int32.le_iff_toInt_le.mp (Int32.not_lt.mp c3)
        rw [if_neg c3, if_neg (show ¬ x ≤ u - 1 from fun q => by have := Int32.le_iff_toInt_le.mp q; rw [hp] at this; omega)]; decide
theorem lt_47 (y : Int32) : y < 47 ↔ y ≤ 46 := by
  rw [Int32.lt_iff_toInt_lt, Int32.le_iff_toInt_le, show (47 : Int32).toInt = 47 from rfl, show (46 : Int32).toInt = 46 from rfl]; omega
theorem mot_bit (z : Int32) : mot z 0 1 = 0 ↔ (z = 0 ∨ z = 1) := by
  constructor
  · intro h
    obtain ⟨h1, h2⟩ := mot_0 h
    obtain ⟨j, hj, rfl⟩ := nI_of2 (M := 1) (n := 1) rfl h1 h2
    rcases (show j = 0 ∨ j = 1 by omega) with rfl | rfl
    · exact Or.inl rfl
    · exact Or.inr rfl
  · rintro (rfl | rfl) <;> decide
theorem cte_mxc (x y z : Int32) : cte x y z = mxc x y z := by
  unfold cte mxc
  rcases isc_mot x with ⟨h1, h2⟩ | ⟨h1, h2⟩
  · rw [if_pos h1, h2, if_neg (by decide)]; decide
  · rw [if_neg (by rw [h1]; decide), if_pos h2]
    have hm : mot y 0 46 = if y < 0 then 1 else if y < 47 then 0 else 1 := by
      unfold mot
      by_cases q : y < 47
      · rw [if_pos q, if_pos ((lt_47 y).mp q)]
      · rw [if_neg q, if_neg (fun r => q ((lt_47 y).mpr r))]
    rw [hm]
    by_cases c1 : y < 0
    · rw [if_pos c1, if_pos c1, if_neg (by decide)]; decide
    · rw [if_neg c1, if_neg c1]
      by_cases c2 : y < 47
      · rw [if_pos c2, if_pos c2, if_pos rfl]
        by_cases c3 : z = 0
        · rw [if_pos c3, if_pos ((mot_bit z).mpr (Or.inl c3))]; decide
        · rw [if_neg c3]
          by_cases c4 : z = 1
          · rw [if_pos c4, if_pos ((mot_bit z).mpr (Or.inr c4))]; decide
          · rw [if_neg c4, if_neg (fun q => ((mot_bit z).mp q).elim c3 c4)]; decide
      · rw [if_neg c2, if_neg c2, if_neg (by decide)]; decide
theorem ste_msc (x : Int32) : ste x = msc x := by
  unfold ste msc
  rcases isc_mot x with ⟨h1, h2⟩ | ⟨h1, h2⟩
  · rw [if_pos h1, h2]; decide
  · rw [if_neg (by rw [h1]; decide), h2]; decide
theorem ope_mth {so : Int32} (h : so = 0 ∨ so = 1) : ope so = mth so 0 0 := by
  rcases h with rfl | rfl <;> decide
theorem mot_nn (nn : Int32) : mot nn 1 64 = 0 ↔ (¬ nn < 1 ∧ nn ≤ 64) := by
  unfold mot
  by_cases c1 : nn < 1
  · rw [if_pos c1]; exact ⟨fun h => absurd h (by decide), fun h => absurd c1 h.1⟩
  · rw [if_neg c1]
    by_cases c2 : nn ≤ 64
    · rw [if_pos c2]; exact ⟨fun _ => ⟨c1, c2⟩, fun _ => rfl⟩
    · rw [if_neg c2]; exact ⟨fun h => absurd h (by decide), fun h => absurd h.2 c2⟩
theorem wre_mwx {so sr Mrw x nn u : Int32} (h : ¬ so = 0 → Mrw = sr) : wre so sr x nn u = mwx so Mrw x nn u := by
  unfold wre mwx
  by_cases c0 : so = 0
  · rw [if_pos c0, if_pos c0]; rfl
  · rw [if_neg c0, if_neg c0, h c0]
    rcases fts_mbd x sr nn with ⟨h1, h2⟩ | ⟨h1, h2⟩
    · rw [if_pos h1, h2]; rfl
    · rw [if_neg (by rw [h1]; decide), h2]
      by_cases c1 : nn < 1
      · rw [if_pos c1, if_neg (fun q => ((mot_nn nn).mp q).1 c1)]; rfl
      · rw [if_neg c1]
        by_cases c2 : nn ≤ 64
        · rw [if_pos c2, if_pos ((mot_nn nn).mpr ⟨c1, c2⟩)]
          by_cases c3 : u ≤ 65000
          · rw [if_pos c3, if_pos c3]; decide
          · rw [if_neg c3, if_neg c3]; decide
        · rw [if_neg c2, if_neg (fun q => c2 ((mot_nn nn).mp q).2)]; rfl
theorem wre_0 {so sr x nn u : Int32} (h : wre so sr x nn u = 0) : ¬ so = 0 ∧ (sr = 0 → mot x 0 18 = 0) ∧ ¬ nn < 1 ∧ nn ≤ 64 ∧ u ≤ 65000 := by
  unfold wre at h
  split at h
  · exact absurd h (by decide)
  · rename_i c0
    split at h
    · exact absurd h (by decide)
    · rename_i c1
      split at h
      · exact absurd h (by decide)
      · rename_i c2
        split at h
        · rename_i c3
          split at h
          · rename_i c4
            refine ⟨c0, fun q => ?_, c2, c3, c4⟩
            rw [fts, if_pos q] at c1
            rcases isc_mot x with ⟨h1, h2⟩ | ⟨h1, h2⟩
            · exact absurd h1 c1
            · exact h2
          · exact absurd h (by decide)
        · exact absurd h (by decide)
theorem ene_mth {so : Int32} : ene so = mth (if so = 0 then 1 else 0) 0 0 := by
  unfold ene
  by_cases c : so = 0
  · rw [if_pos c]; decide
  · rw [if_neg c]; decide
theorem cle_mcx (so y : Int32) : cle so y = mcx so y := by
  unfold cle mcx
  by_cases c : so = 0
  · rw [if_pos c, if_pos c]; rfl
  · rw [if_neg c, if_neg c]
    by_cases c1 : y = 0
    · subst c1; decide
    · rw [if_neg c1]
      by_cases c2 : y = 1
      · subst c2; decide
      · rw [if_neg c2, mot_n (fun q => ((mot_bit y).mp q).elim c1 c2)]; decide
theorem cle_0 {so y : Int32} (h : cle so y = 0) : ¬ so = 0 := by
  unfold cle at h
  split at h
  · exact absurd h (by decide)
  · assumption
theorem rde_mrx {so y v u : Int32} : rde so y v u = mrx so y v u := by
  unfold rde mrx mth mrt
  by_cases c0 : so = 0
  · rw [if_pos c0, if_pos c0]
    by_cases c1 : y < 0
    · rw [if_pos c1, if_pos c1]; decide
    · rw [if_neg c1, if_neg c1]
      by_cases c2 : u < y
      · rw [if_pos c2]
        by_cases c3 : v < 0
        · rw [if_pos c3]; decide
        · rw [if_neg c3, if_pos c2]; decide
      · rw [if_neg c2]
        by_cases c3 : v < 0
        · rw [if_pos c3, if_pos c3]; decide
        · rw [if_neg c3, if_neg c3, if_neg c2]
          by_cases c4 : v ≤ u - y
          · rw [if_pos c4, if_neg (Int32.not_lt.mpr c4)]; decide
          · rw [if_neg c4, if_pos (Int32.not_le.mp c4)]; decide
  · rw [if_neg c0, if_neg c0]
theorem rde_0 {so y v u : Int32} (h : rde so y v u = 0) : so = 0 ∧ ¬ y < 0 ∧ ¬ u < y ∧ ¬ v < 0 ∧ ¬ u - y < v := by
  unfold rde at h
  split at h
  · rename_i c0
    split at h
    · exact absurd h (by decide)
    · rename_i c1
      split at h
      · exact absurd h (by decide)
      · rename_i c2
        split at h
        · exact absurd h (by decide)
        · rename_i c3
          split at h
          · rename_i c4
            exact ⟨c0, c1, c2, c3, Int32.not_lt.mpr c4⟩
          · exact absurd h (by decide)
  · exact absurd h (by decide)
theorem bte_mbx {dr dw rr x nn : Int32} (h : ¬ dr = 0 → rr = dw) : bte dr dw x nn = mbx dr rr x nn := by
  unfold bte mbx
  by_cases c0 : dr = 0
  · rw [if_pos c0, if_pos c0]; rfl
  · rw [if_neg c0, if_neg c0, h c0]
    rcases fts_mbd x dw nn with ⟨h1, h2⟩ | ⟨h1, h2⟩
    · rw [if_pos h1, h2]; rfl
    · rw [if_neg (by rw [h1]; decide), h2]
      by_cases c1 : nn < 1
      · rw [if_pos c1, if_neg (fun q => ((mot_nn nn).mp q).1 c1)]; rfl
      · rw [if_neg c1]
        by_cases c2 : nn ≤ 64
        · rw [if_pos c2, if_pos ((mot_nn nn).mpr ⟨c1, c2⟩)]; rfl
        · rw [if_neg c2, if_neg (fun q => c2 ((mot_nn nn).mp q).2)]; rfl
theorem bte_0 {dr dw x nn : Int32} (h : bte dr dw x nn = 0) : ¬ dr = 0 ∧ (dw = 0 → mot x 0 18 = 0) ∧ ¬ nn < 1 ∧ nn ≤ 64 := by
  unfold bte at h
  split at h
  · exact absurd h (by decide)
  · rename_i c0
    split at h
    · exact absurd h (by decide)
    · rename_i c1
      split at h
      · exact absurd h (by decide)
      · rename_i c2
        split at h
        · rename_i c3
          refine ⟨c0, fun q => ?_, c2, c3⟩
          rw [fts, if_pos q] at c1
          rcases isc_mot x with ⟨h1, h2⟩ | ⟨h1, h2⟩
          · exact absurd h1 c1
          · exact h2
        · exact absurd h (by decide)
theorem cte_0 {x y z : Int32} (h : cte x y z = 0) : mot x 0 18 = 0 ∧ ¬ y < 0 ∧ y < 47 := by
  unfold cte at h
  split at h
  · exact absurd h (by decide)
  · rename_i c0
    split at h
    · exact absurd h (by decide)
    · rename_i c1
      split at h
      · rename_i c2
        rcases isc_mot x with ⟨h1, h2⟩ | ⟨h1, h2⟩
        · exact absurd h1 c0
        · exact ⟨h2, c1, c2⟩
      · exact absurd h (by decide)
theorem pue_0 {b so u : Int32} (h : pue b so u = 0) : (∃ j : Nat, j < 256 ∧ b = nI j) ∧ so = 0 ∧ u < 65536 := by
  unfold pue at h
  split at h
  · exact absurd h (by decide)
  · rename_i c1
    split at h
    · rename_i c2
      split at h
      · rename_i c3
        split at h
        · rename_i c4
          obtain ⟨j, hj, e⟩ := nI_of2 (M := 255) (n := 255) rfl c1 c2
          exact ⟨⟨j, by omega, e⟩, c3, c4⟩
        · exact absurd h (by decide)
      · exact absurd h (by decide)
    · exact absurd h (by decide)
/-! how much the row's array may hold -/
theorem apn_hi {n : Nat} (L : List Int32) (h : n ≤ 131072) : apn n L ≤ 131072 := by
  unfold apn
  split
  · exact h
  · split <;> omega
theorem bo_hi (a lo : Int32) {n : Nat} (L : List Int32) (h : n ≤ 131072) : (bo a lo n L).2.2.1 ≤ 131072 := by
  unfold bo bo2 bo3
  repeat' split
  all_goals exact apn_hi _ h
theorem fb_hi (a lo rm : Int32) {n : Nat} (L : List Int32) (h : n ≤ 131072) : (fb a lo rm n L).2.2.1 ≤ 131072 := bo_hi _ _ _ h
theorem enl_hi (t : Nat) : ∀ (a lo sz rm : Int32) (n : Nat) (L : List Int32), n ≤ 131072 → (enl t a lo sz rm n L).2.2.2.1 ≤ 131072 := by
  induction t with
  | zero => intro a lo sz rm n L h; exact h
  | succ t ih =>
    intro a lo sz rm n L h
    rw [enl]
    split
    · exact h
    · split
      · exact ih _ _ _ _ _ _ (bo_hi a (lo * 2) L h)
      · exact ih _ _ _ _ _ _ h
theorem ew1_hi (t : Nat) : ∀ (a y lo rm : Int32) (n : Nat) (L : List Int32), n ≤ 131072 → (ew1 t a y lo rm n L).2.2.1 ≤ 131072 := by
  induction t with
  | zero => intro a y lo rm n L h; exact h
  | succ t ih =>
    intro a y lo rm n L h
    rw [ew1]
    split
    · exact h
    · exact ih _ _ _ _ _ _ (fb_hi a lo rm L h)
theorem ew0_hi (a lo sz rm : Int32) {n : Nat} (L : List Int32) (h : n ≤ 131072) : (ew0 a lo sz rm n L).2.2.1 ≤ 131072 := fb_hi _ _ _ _ (fb_hi _ _ _ _ h)
theorem rad_hi (a rm : Int32) {n : Nat} (L : List Int32) (b : Int32) (h : n ≤ 131072) : (rad a rm n L b).2.1 ≤ 131072 := by
  unfold rad ra2
  repeat' split
  all_goals first | exact apn_hi _ h | exact h
theorem rwe_hi (t : Nat) : ∀ (a i rm : Int32) (n : Nat) (L : List Int32), n ≤ 131072 → (rwe t a i rm n L).2.1 ≤ 131072 := by
  induction t with
  | zero => intro a i rm n L h; exact h
  | succ t ih => intro a i rm n L h; rw [rwe]; exact ih _ _ _ _ _ (rad_hi a rm L _ h)
theorem wlp_hi (t : Nat) : ∀ (sr a x : Int32) (w : Int64) (lo sz rm rw : Int32) (sf lf : Nat → Int32) (n : Nat) (L : List Int32), n ≤ 131072 → (wlp t sr a x w lo sz rm rw sf lf n L).2.2.2.2.2.2.1 ≤ 131072 := by
  induction t with
  | zero => intro sr a x w lo sz rm rw sf lf n L h; exact h
  | succ t ih =>
    intro sr a x w lo sz rm rw sf lf n L h
    rw [wlp]
    split
    · exact ih _ _ _ _ _ _ _ _ _ _ _ _ (enl_hi _ _ _ _ _ _ _ h)
    · exact ih _ _ _ _ _ _ _ _ _ _ _ _ (rad_hi a rw L _ h)
theorem cl0_hi (sr a lo sz rm rw : Int32) {n : Nat} (L : List Int32) (y : Int32) (h : n ≤ 131072) : (cl0 sr a lo sz rm rw n L y).2.2.2.1 ≤ 131072 := by
  by_cases c : sr = 0
  · by_cases c2 : y = 0
    · rw [cl0, if_pos c, if_pos c2]; dsimp only; exact ew0_hi _ _ _ _ _ h
    · rw [cl0, if_pos c, if_neg c2]; dsimp only; exact ew1_hi _ _ _ _ _ _ _ h
  · rw [cl0, if_neg c]; dsimp only; exact rwe_hi _ _ _ _ _ _ h
theorem cl0_le (sr a lo sz rm rw : Int32) (n : Nat) (L : List Int32) (y : Int32) : n ≤ (cl0 sr a lo sz rm rw n L y).2.2.2.1 := by
  by_cases c : sr = 0
  · by_cases c2 : y = 0
    · rw [cl0, if_pos c, if_pos c2]; dsimp only; exact ew0_le _ _ _ _ _ _
    · rw [cl0, if_pos c, if_neg c2]; dsimp only; exact ew1_le _ _ _ _ _ _ _
  · rw [cl0, if_neg c]; dsimp only; exact rwe_le _ _ _ _ _ _

def wo_CWr_enlarge (k : gK) (h0 qs qr qa : Nat) (qc : Nat) (lo : Int32) (sz : Int32) (rm : Int32) (a : Int32) (n : Nat) (f : Nat → Int32) (u : Int32) (L : List Int32) (zz : Nat × (Nat → Int32) × Int32) (uu : Int32 × Int32 × Int32 × Nat × List Int32) : va_W := match zz, uu with
  | (q2, f2, u2), (lo2, sz2, rm2, n2, L2) => [(h0, .inr (4, [.ref qs, .ref qc, .int lo2, .int sz2, .int rm2])), (qs, .inr (2, [.ref qr, .int a])), (qr, .inr (0, [.ref q2, .int u2])), (q2, .inl (k.1, n2, .inl f2))]
def ex_CWr_enlarge (k : gK) (h0 qs qr qa : Nat) (qc : Nat) (lo : Int32) (sz : Int32) (rm : Int32) (a : Int32) (n : Nat) (f : Nat → Int32) (u : Int32) (L : List Int32) (zz : Nat × (Nat → Int32) × Int32) (uu : Int32 × Int32 × Int32 × Nat × List Int32) : Prop := match zz, uu with
  | (q2, f2, u2), (lo2, sz2, rm2, n2, L2) => row_ok n2 f2 u2 L2
def po_CWr_enlarge (k : gK) (h0 qs qr qa : Nat) (qc : Nat) (lo : Int32) (sz : Int32) (rm : Int32) (a : Int32) (n : Nat) (f : Nat → Int32) (u : Int32) (L : List Int32) (uu : Int32 × Int32 × Int32 × Nat × List Int32) : Prop := match uu with
  | (lo2, sz2, rm2, n2, L2) => lo2 = (enl 15 a lo sz rm n L).1 ∧ sz2 = (enl 15 a lo sz rm n L).2.1 ∧ rm2 = (enl 15 a lo sz rm n L).2.2.1 ∧ n2 = (enl 15 a lo sz rm n L).2.2.2.1 ∧ L2 = (enl 15 a lo sz rm n L).2.2.2.2
def qc_CWr_enlarge (D : va_G) (k : gK) (h0 qs qr qa : Nat) (qc : Nat) (lo : Int32) (sz : Int32) (rm : Int32) (a : Int32) (n : Nat) (f : Nat → Int32) (u : Int32) (L : List Int32) (A : Nat → Prop) : Array Value → State → Outcome → State → Prop := va_Qv (po_CWr_enlarge k h0 qs qr qa qc lo sz rm a n f u L) (fun uu t => ∃ zz, ex_CWr_enlarge k h0 qs qr qa qc lo sz rm a n f u L zz uu ∧ GP D A (wo_CWr_enlarge k h0 qs qr qa qc lo sz rm a n f u L zz uu) t) A
set_option maxHeartbeats 1000000 in
set_option maxRecDepth 100000 in
theorem lp_CWr_enlarge_2 (l : Launch) (hl9 : l.stackTraces = false) (D : va_G) (k : gK) (h0 qs qr qa : Nat) (qc : Nat) (lo : Int32) (sz : Int32) (rm : Int32) (a : Int32) (n : Nat) (f : Nat → Int32) (u : Int32) (L : List Int32) {p : Program} {e : Env} {s : State} {m : MethodId} {below : List Frame} {meth : Method} {c : Code} {A : Nat → Prop} (Cc : Cx p s m ([.ref h0] : List Value).toArray meth c b_CWr_enlarge 2 none y_CWr_enlarge.cls y_CWr_enlarge.name D k A) (hA : ∀ q : Nat, s.heap.size ≤ q → A q) :
    ∀ (t : Nat) (i1 : Int32) (lo1 : Int32) (sz1 : Int32) (rm1 : Int32) (qa1 : Nat) (n1 : Nat) (f1 : Nat → Int32) (u1 : Int32) (L1 : List Int32), (row_ok n1 f1 u1 L1) → (enl 15 a lo sz rm n L = enl t a lo1 sz1 rm1 n1 L1) → (i1 = nI (15 - t)) → (t ≤ 15) → ∀ (H : Heap) (locs : List Loc) (cells slots : Nat), cells ≤ n1 - n ∧ slots ≤ 2 * (n1 - n) ∧ n ≤ n1 → va_P D vwCl [(h0, .inr (4, [.ref qs, .ref qc, .int lo1, .int sz1, .int rm1])), (qs, .inr (2, [.ref qr, .int a])), (qr, .inr (0, [.ref qa1, .int u1])), (qa1, .inl (k.1, n1, .inl f1))] H → va_D A [(h0, .inr (4, [.ref qs, .ref qc, .int lo1, .int sz1, .int rm1])), (qs, .inr (2, [.ref qr, .int a])), (qr, .inr (0, [.ref qa1, .int u1])), (qa1, .inl (k.1, n1, .inl f1))] → va_S A s.heap H locs → ∀ ls : Array Slot, lv_has ls 2 [(1, .int i1), (0, .ref h0)] → W p l e ({ frames := 5, cells := (enl 15 a lo sz rm n L).2.2.2.1 - n, slots := 2 * ((enl 15 a lo sz rm n L).2.2.2.1 - n), locals := 146 }) s m ([.ref h0] : List Value).toArray below meth c H locs cells slots (MQ below (qc_CWr_enlarge D k h0 qs qr qa qc lo sz rm a n f u L A) ([.ref h0] : List Value).toArray s ((enl 15 a lo sz rm n L).2.2.2.1 - n) (2 * ((enl 15 a lo sz rm n L).2.2.2.1 - n)) A) (F0 m 2 ls []) := by
  have Cc9 := Cc
  obtain ⟨hx, hb, hml, hr, hlk, hown, hts, hK, hE, hin⟩ := Cc
  intro t
  induction t with
  | zero =>
    intro i1 lo1 sz1 rm1 qa1 n1 f1 u1 L1 hR1 hF hi ht H locs cells slots hrm hP hD hS ls hl
    refine lv_iload_n hx hb d_CWr_enlarge_2 rfl (lv_at hl 0 rfl) ?_
    refine lv_bipush (v := 15) hx hb d_CWr_enlarge_3 (by decide) ?_
    refine lv_icmp_ge (tgt := 64) hx hb d_CWr_enlarge_5 (by decide) (fun c1 => ?_) (fun c1 => ?_)
    · exact krv (wo := wo_CWr_enlarge k h0 qs qr qa qc lo sz rm a n f u L) hx hb hr hlk hP hD hS (lo1, sz1, rm1, n1, L1) (qa1, f1, u1) (by simp only [po_CWr_enlarge]; rw [hF]; simp [enl]) hR1 [0, 1, 2, 3] rfl (by decide) (by rw [hF]; simp only [enl]; omega) (by rw [hF]; simp only [enl]; omega) d_CWr_enlarge_64
    · exact absurd (by rw [hi]; decide) c1
  | succ t ih =>
    intro i1 lo1 sz1 rm1 qa1 n1 f1 u1 L1 hR1 hF hi ht H locs cells slots hrm hP hD hS ls hl
    refine lv_iload_n hx hb d_CWr_enlarge_2 rfl (lv_at hl 0 rfl) ?_
    refine lv_bipush (v := 15) hx hb d_CWr_enlarge_3 (by decide) ?_
    refine lv_icmp_ge (tgt := 64) hx hb d_CWr_enlarge_5 (by decide) (fun c2 => ?_) (fun c2 => ?_)
    · exact absurd (by rw [hi] at c2; exact c2) (i_15 (by omega))
    · refine lv_aload_n hx hb d_CWr_enlarge_8 rfl (lv_at hl 1 rfl) ?_
      refine va_get (D := D) (ci := 4) (v := .int sz1) (C := R_CWr) (T := T_CWr) (N := 5) hx hb hts inw_CWr hown hK hP 0 rfl rfl 3 (by decide) (hts (.fieldLink R_CWr 24 "LikelyBits$CodedWriter" "size" "I") mw_80) (fun _ h9 => h9) rfl d_CWr_enlarge_9 ?_
      refine lv_ldc (v := 32768) hx hb hown (hts (.constant R_CWr 23 32768) mw_79) d_CWr_enlarge_12 ?_
      refine lv_icmp_ge (tgt := 64) hx hb d_CWr_enlarge_14 (by decide) (fun c3 => ?_) (fun c3 => ?_)
      · exact krv (wo := wo_CWr_enlarge k h0 qs qr qa qc lo sz rm a n f u L) hx hb hr hlk hP hD hS (lo1, sz1, rm1, n1, L1) (qa1, f1, u1) (by simp only [po_CWr_enlarge]; rw [hF, enl, if_pos c3]; simp) hR1 [0, 1, 2, 3] rfl (by decide) (by rw [hF, enl, if_pos c3]; dsimp only; omega) (by rw [hF, enl, if_pos c3]; dsimp only; omega) d_CWr_enlarge_64
      · refine lv_aload_n hx hb d_CWr_enlarge_17 rfl (lv_at hl 1 rfl) ?_
        refine lv_dup hx hb d_CWr_enlarge_18 rfl ?_
        refine va_get (D := D) (ci := 4) (v := .int sz1) (C := R_CWr) (T := T_CWr) (N := 5) hx hb hts inw_CWr hown hK hP 0 rfl rfl 3 (by decide) (hts (.fieldLink R_CWr 24 "LikelyBits$CodedWriter" "size" "I") mw_80) (fun _ h9 => h9) rfl d_CWr_enlarge_19 ?_
        refine lv_iconst (v := 2) hx hb d_CWr_enlarge_22 (by decide) ?_
        refine lv_imul hx hb d_CWr_enlarge_23 ?_
        refine lv_topi (fun x4 ex4 => ?_)
        refine va_put (D := D) (ci := 4) (v := .int x4) (ty := .int) (C := R_CWr) (T := T_CWr) (N := 5) hx hb hts inw_CWr ty_CWr tyok_CWr nm_CWr hown hK hP hD hS 0 rfl rfl 3 (by decide) (hts (.fieldLink R_CWr 24 "LikelyBits$CodedWriter" "size" "I") mw_80) (fun _ h9 => h9) rfl (by decide +kernel) rfl rfl (Nat.le_of_ble_eq_true rfl) d_CWr_enlarge_24 (fun H locs hP hD hS => ?_)
        have hP : va_P D vwCl [(h0, .inr (4, [.ref qs, .ref qc, .int lo1, .int x4, .int rm1])), (qs, .inr (2, [.ref qr, .int a])), (qr, .inr (0, [.ref qa1, .int u1])), (qa1, .inl (k.1, n1, .inl f1))] H := hP
        have hD : va_D A [(h0, .inr (4, [.ref qs, .ref qc, .int lo1, .int x4, .int rm1])), (qs, .inr (2, [.ref qr, .int a])), (qr, .inr (0, [.ref qa1, .int u1])), (qa1, .inl (k.1, n1, .inl f1))] := hD
        refine lv_aload_n hx hb d_CWr_enlarge_27 rfl (lv_at hl 1 rfl) ?_
        refine lv_dup hx hb d_CWr_enlarge_28 rfl ?_
        refine va_get (D := D) (ci := 4) (v := .int lo1) (C := R_CWr) (T := T_CWr) (N := 5) hx hb hts inw_CWr hown hK hP 0 rfl rfl 2 (by decide) (hts (.fieldLink R_CWr 19 "LikelyBits$CodedWriter" "low" "I") mw_78) (fun _ h9 => h9) rfl d_CWr_enlarge_29 ?_
        refine lv_iconst (v := 2) hx hb d_CWr_enlarge_32 (by decide) ?_
        refine lv_imul hx hb d_CWr_enlarge_33 ?_
        refine lv_topi (fun x5 ex5 => ?_)
        refine va_put (D := D) (ci := 4) (v := .int x5) (ty := .int) (C := R_CWr) (T := T_CWr) (N := 5) hx hb hts inw_CWr ty_CWr tyok_CWr nm_CWr hown hK hP hD hS 0 rfl rfl 2 (by decide) (hts (.fieldLink R_CWr 19 "LikelyBits$CodedWriter" "low" "I") mw_78) (fun _ h9 => h9) rfl (by decide +kernel) rfl rfl (Nat.le_of_ble_eq_true rfl) d_CWr_enlarge_34 (fun H locs hP hD hS => ?_)
        have hP : va_P D vwCl [(h0, .inr (4, [.ref qs, .ref qc, .int x5, .int x4, .int rm1])), (qs, .inr (2, [.ref qr, .int a])), (qr, .inr (0, [.ref qa1, .int u1])), (qa1, .inl (k.1, n1, .inl f1))] H := hP
        have hD : va_D A [(h0, .inr (4, [.ref qs, .ref qc, .int x5, .int x4, .int rm1])), (qs, .inr (2, [.ref qr, .int a])), (qr, .inr (0, [.ref qa1, .int u1])), (qa1, .inl (k.1, n1, .inl f1))] := hD
        refine lv_aload_n hx hb d_CWr_enlarge_37 rfl (lv_at hl 1 rfl) ?_
        refine lv_dup hx hb d_CWr_enlarge_38 rfl ?_
        refine va_get (D := D) (ci := 4) (v := .int rm1) (C := R_CWr) (T := T_CWr) (N := 5) hx hb hts inw_CWr hown hK hP 0 rfl rfl 4 (by decide) (hts (.fieldLink R_CWr 27 "LikelyBits$CodedWriter" "room" "I") mw_81) (fun _ h9 => h9) rfl d_CWr_enlarge_39 ?_
        refine lv_iconst (v := 1) hx hb d_CWr_enlarge_42 (by decide) ?_
        refine lv_isub hx hb d_CWr_enlarge_43 ?_
        refine lv_topi (fun x6 ex6 => ?_)
        refine va_put (D := D) (ci := 4) (v := .int x6) (ty := .int) (C := R_CWr) (T := T_CWr) (N := 5) hx hb hts inw_CWr ty_CWr tyok_CWr nm_CWr hown hK hP hD hS 0 rfl rfl 4 (by decide) (hts (.fieldLink R_CWr 27 "LikelyBits$CodedWriter" "room" "I") mw_81) (fun _ h9 => h9) rfl (by decide +kernel) rfl rfl (Nat.le_of_ble_eq_true rfl) d_CWr_enlarge_44 (fun H locs hP hD hS => ?_)
        have hP : va_P D vwCl [(h0, .inr (4, [.ref qs, .ref qc, .int x5, .int x4, .int x6])), (qs, .inr (2, [.ref qr, .int a])), (qr, .inr (0, [.ref qa1, .int u1])), (qa1, .inl (k.1, n1, .inl f1))] H := hP
        have hD : va_D A [(h0, .inr (4, [.ref qs, .ref qc, .int x5, .int x4, .int x6])), (qs, .inr (2, [.ref qr, .int a])), (qr, .inr (0, [.ref qa1, .int u1])), (qa1, .inl (k.1, n1, .inl f1))] := hD
        refine lv_aload_n hx hb d_CWr_enlarge_47 rfl (lv_at hl 1 rfl) ?_
        refine va_get (D := D) (ci := 4) (v := .int x6) (C := R_CWr) (T := T_CWr) (N := 5) hx hb hts inw_CWr hown hK hP 0 rfl rfl 4 (by decide) (hts (.fieldLink R_CWr 27 "LikelyBits$CodedWriter" "room" "I") mw_81) (fun _ h9 => h9) rfl d_CWr_enlarge_48 ?_
        refine lv_if_ne (tgt := 58) hx hb d_CWr_enlarge_51 (by decide) (fun c7 => ?_) (fun c7 => ?_)
        · obtain ⟨x8, ex8⟩ : ∃ y : Int32, y = i1 + 1 := ⟨_, rfl⟩
          refine lv_iinc (v := x8) (lv' := [(1, .int x8), (0, .ref h0)]) hx hb d_CWr_enlarge_58 hl (k := 0) rfl (by rw [ex8]; rfl) (by decide) rfl (fun ls hl => ?_)
          refine lv_goto (tgt := 2) hx hb d_CWr_enlarge_61 (by decide) ?_
          exact ih x8 x5 x4 x6 qa1 n1 f1 u1 L1 (by assumption) (by subst ex8; subst ex6; subst ex5; subst ex4; rw [hF, enl, if_neg c3, if_neg c7]) (by rw [ex8, hi, show 15 - t = (15 - (t + 1)) + 1 by omega]; exact nI_1 _) (by omega) H _ _ _ (by exact ⟨by omega, by omega, by omega⟩) (ka_P hP (is := [0, 1, 2, 3]) rfl) (hD.sub [0, 1, 2, 3] (by decide) rfl) hS ls (lv_sub hl [0, 1] rfl)
        · refine lv_aload_n hx hb d_CWr_enlarge_54 rfl (lv_at hl 1 rfl) ?_
          have hb1 := bo_le a x5 n1 L1
          have hb2 : (bo a x5 n1 L1).2.2.1 ≤ (enl 15 a lo sz rm n L).2.2.2.1 := by rw [hF, enl, if_neg c3, if_pos (by subst ex6; subst ex5; subst ex4; assumption)]; subst ex6; subst ex5; subst ex4; exact enl_le _ _ _ _ _ _ _
          refine kcv (wc := [(h0, .inr (4, [.ref qs, .ref qc, .int x5, .int x4, .int x6])), (qs, .inr (2, [.ref qr, .int a])), (qr, .inr (0, [.ref qa1, .int u1])), (qa1, .inl (k.1, n1, .inl f1))]) (wr := []) (va_runV (As := []) (rest := []) ⟨hx, hb, hml, hown, hts⟩ (c_CWr_byteOut l hl9 D k h0 qs qr qa1 H.size qc x5 x4 x6 a n1 f1 u1 L1 (by assumption)) (cwV 0 hts (gV mw_92 mw_93 mw_94 mw_95 mw_96) rfl rfl rfl (by decide +kernel) ⟨(Nat.le_of_ble_eq_true rfl), (Nat.le_of_ble_eq_true rfl)⟩) (kRecv (q := (R_CWr, T_CWr, 5)) (q0 := 0) (ci := 4) hK hP rfl rfl (kPre (wc := [(h0, .inr (4, [.ref qs, .ref qc, .int x5, .int x4, .int x6])), (qs, .inr (2, [.ref qr, .int a])), (qr, .inr (0, [.ref qa1, .int u1])), (qa1, .inl (k.1, n1, .inl f1))]) hE hK hP hD hS hA [0, 1, 2, 3] rfl (by decide))) rfl rfl hl.1 rfl (lv_room (Nat.le_of_ble_eq_true rfl)) d_CWr_enlarge_55 ⟨(by first | omega | (dsimp only; omega)), (by first | omega | (dsimp only; omega))⟩) hP hD hS hA [0, 1, 2, 3] [] rfl rfl (by decide) (by decide) (fun zz uu H locs hw17 hz18 hP hD hS => ?_)
          obtain ⟨q_13, f_14, u_15⟩ := zz
          obtain ⟨lo_9, rm_10, n_11, L_12⟩ := uu
          have hw17 : lo_9 = (bo a x5 n1 L1).1 ∧ rm_10 = (bo a x5 n1 L1).2.1 ∧ n_11 = (bo a x5 n1 L1).2.2.1 ∧ L_12 = (bo a x5 n1 L1).2.2.2 := hw17
          have hz18 : row_ok n_11 f_14 u_15 L_12 := hz18
          have hP : va_P D vwCl [(h0, .inr (4, [.ref qs, .ref qc, .int lo_9, .int x4, .int rm_10])), (qs, .inr (2, [.ref qr, .int a])), (qr, .inr (0, [.ref q_13, .int u_15])), (q_13, .inl (k.1, n_11, .inl f_14))] H := hP
          have hD : va_D A [(h0, .inr (4, [.ref qs, .ref qc, .int lo_9, .int x4, .int rm_10])), (qs, .inr (2, [.ref qr, .int a])), (qr, .inr (0, [.ref q_13, .int u_15])), (q_13, .inl (k.1, n_11, .inl f_14))] := hD
          obtain ⟨x19, ex19⟩ : ∃ y : Int32, y = i1 + 1 := ⟨_, rfl⟩
          refine lv_iinc (v := x19) (lv' := [(1, .int x19), (0, .ref h0)]) hx hb d_CWr_enlarge_58 hl (k := 0) rfl (by rw [ex19]; rfl) (by decide) rfl (fun ls hl => ?_)
          refine lv_goto (tgt := 2) hx hb d_CWr_enlarge_61 (by decide) ?_
          exact ih x19 lo_9 x4 rm_10 q_13 n_11 f_14 u_15 L_12 (by assumption) (by subst ex19; obtain ⟨rfl, rfl, rfl, rfl⟩ := hw17; subst ex6; subst ex5; subst ex4; rw [hF, enl, if_neg c3, if_pos c7]) (by rw [ex19, hi, show 15 - t = (15 - (t + 1)) + 1 by omega]; exact nI_1 _) (by omega) H _ _ _ (by exact ⟨by omega, by omega, by omega⟩) (ka_P hP (is := [0, 1, 2, 3]) rfl) (hD.sub [0, 1, 2, 3] (by decide) rfl) hS ls (lv_sub hl [0, 1] rfl)
set_option maxHeartbeats 1000000 in
set_option maxRecDepth 100000 in
theorem c_CWr_enlarge (l : Launch) (hl9 : l.stackTraces = false) (D : va_G) (k : gK) (h0 qs qr qa : Nat) (zsz : Nat) (qc : Nat) (lo : Int32) (sz : Int32) (rm : Int32) (a : Int32) (n : Nat) (f : Nat → Int32) (u : Int32) (L : List Int32) (hR : row_ok n f u L) : Met l y_CWr_enlarge (.code y_CWr_enlarge b_CWr_enlarge 2 none :: AW) ({ frames := 5, cells := (enl 15 a lo sz rm n L).2.2.2.1 - n, slots := 2 * ((enl 15 a lo sz rm n L).2.2.2.1 - n), locals := 146 }) (va_Pc [.ref h0] (GG D k [(h0, .inr (4, [.ref qs, .ref qc, .int lo, .int sz, .int rm])), (qs, .inr (2, [.ref qr, .int a])), (qr, .inr (0, [.ref qa, .int u])), (qa, .inl (k.1, n, .inl f))] zsz)) (qc_CWr_enlarge D k h0 qs qr qa qc lo sz rm a n f u L (va_A [(h0, .inr (4, [.ref qs, .ref qc, .int lo, .int sz, .int rm])), (qs, .inr (2, [.ref qr, .int a])), (qr, .inr (0, [.ref qa, .int u])), (qa, .inl (k.1, n, .inl f))] zsz)) ((enl 15 a lo sz rm n L).2.2.2.1 - n) (2 * ((enl 15 a lo sz rm n L).2.2.2.1 - n)) (va_A [(h0, .inr (4, [.ref qs, .ref qc, .int lo, .int sz, .int rm])), (qs, .inr (2, [.ref qr, .int a])), (qr, .inr (0, [.ref qa, .int u])), (qa, .inl (k.1, n, .inl f))] zsz) := by
  refine kMet (ws := [(h0, .inr (4, [.ref qs, .ref qc, .int lo, .int sz, .int rm])), (qs, .inr (2, [.ref qr, .int a])), (qr, .inr (0, [.ref qa, .int u])), (qa, .inl (k.1, n, .inl f))]) (Qc := qc_CWr_enlarge D k h0 qs qr qa qc lo sz rm a n f u L) (by decide) (Nat.le_of_ble_eq_true rfl) (fun p e s m below meth c ls A H Cc hP hD hA hS hl => ?_)
  have Cc9 := Cc
  obtain ⟨hx, hb, hml, hr, hlk, hown, hts, hK, hE, hin⟩ := Cc
  have hl : lv_has ls 2 [(0, .ref h0)] := hl
  refine lv_iconst (v := 0) hx hb d_CWr_enlarge_0 (by decide) ?_
  refine lv_istore_n (lv' := [(1, .int 0), (0, .ref h0)]) hx hb d_CWr_enlarge_1 rfl hl (by decide) rfl (fun ls hl => ?_)
  exact lp_CWr_enlarge_2 l hl9 D k h0 qs qr qa qc lo sz rm a n f u L Cc9 hA 15 0 lo sz rm qa n f u L hR rfl rfl (by decide) H _ _ _ ⟨Nat.zero_le _, Nat.zero_le _, Nat.le_refl _⟩ (ka_P hP (is := [0, 1, 2, 3]) rfl) (hD.sub [0, 1, 2, 3] (by decide) rfl) hS ls (lv_sub hl [0, 1] rfl)

set_option maxRecDepth 20000 in
theorem mw_419 : (Cond.constant R_Mdl 104 65535) ∈ AW := inAW (List.mem_append_right _ (show _ ∈ tables_1_1 ++ (tables_1_2 ++ (tables_1_3 ++ tables_1_4)) from (List.mem_append_right _ (List.mem_append_right _ (List.mem_append_right _ (List.mem_of_getElem? (i := 90) rfl)))))) rfl
set_option maxRecDepth 20000 in
theorem mw_420 : (Cond.methodLink R_Mdl 105 y_Mdl_push) ∈ AW := inAW (List.mem_append_right _ (show _ ∈ tables_1_1 ++ (tables_1_2 ++ (tables_1_3 ++ tables_1_4)) from (List.mem_append_right _ (List.mem_append_right _ (List.mem_append_right _ (List.mem_of_getElem? (i := 91) rfl)))))) rfl
set_option maxRecDepth 20000 in
theorem mw_421 : (Cond.instanceMethod y_Mdl_push) ∈ AW := inAW (List.mem_append_right _ (show _ ∈ tables_1_1 ++ (tables_1_2 ++ (tables_1_3 ++ tables_1_4)) from (List.mem_append_right _ (List.mem_append_right _ (List.mem_append_right _ (List.mem_of_getElem? (i := 93) rfl)))))) rfl
set_option maxRecDepth 20000 in
theorem mw_422 : (Cond.selects R_Mdl y_Mdl_push y_Mdl_push) ∈ AW := inAW (List.mem_append_left _ (List.mem_of_getElem? (i := 19) rfl)) rfl
set_option maxRecDepth 20000 in
theorem mw_423 : (Cond.code y_Mdl_push b_Mdl_push 1 none) ∈ AW := inAW (List.mem_append_right _ (show _ ∈ tables_1_1 ++ (tables_1_2 ++ (tables_1_3 ++ tables_1_4)) from (List.mem_append_right _ (List.mem_append_right _ (List.mem_append_right _ (List.mem_of_getElem? (i := 94) rfl)))))) rfl
def wo_M_close (k : gK) (h0 pB : Nat) (pP : Nat) (pO : Nat) (pS : Nat) (pK : Nat) (th : Int32) (sz : Int32) (op : Int32) (rw : Int32) (bg : Int32) (lo : Int32) (cd : Int32) (wd : Int32) (rm : Int32) (rg : Int32) (rr : Int32) (pl : Int32) (lm : Int32) (nx : Int32) (av : Int64) (sp : Int32) (le : Int32) (la : Int32) (B : Nat → Int32) (L : List Int32) (y : Int32) (zz : (Nat → Int32) × Int32) (uu : Int32 × Int32 × Int32 × Int32 × Int32 × List Int32) : va_W := match zz, uu with
  | (B2, sz2), (th2, op2, lo2, cd2, rm2, L2) => [(h0, .inr (9, [.ref pP, .ref pO, .int th2, .int sz2, .ref pB, .ref pS, .ref pK, .int op2, .int rw, .int bg, .int lo2, .int cd2, .int wd, .int rm2, .int rg, .int rr, .int pl, .int lm, .int nx, .long av, .int sp, .int le, .int la])), (pB, .inl (k.1, 65536, .inl B2))]
def ex_M_close (k : gK) (h0 pB : Nat) (pP : Nat) (pO : Nat) (pS : Nat) (pK : Nat) (th : Int32) (sz : Int32) (op : Int32) (rw : Int32) (bg : Int32) (lo : Int32) (cd : Int32) (wd : Int32) (rm : Int32) (rg : Int32) (rr : Int32) (pl : Int32) (lm : Int32) (nx : Int32) (av : Int64) (sp : Int32) (le : Int32) (la : Int32) (B : Nat → Int32) (L : List Int32) (y : Int32) (zz : (Nat → Int32) × Int32) (uu : Int32 × Int32 × Int32 × Int32 × Int32 × List Int32) : Prop := match zz, uu with
  | (B2, sz2), (th2, op2, lo2, cd2, rm2, L2) => row_ok 65536 B2 sz2 L2
def po_M_close (k : gK) (h0 pB : Nat) (pP : Nat) (pO : Nat) (pS : Nat) (pK : Nat) (th : Int32) (sz : Int32) (op : Int32) (rw : Int32) (bg : Int32) (lo : Int32) (cd : Int32) (wd : Int32) (rm : Int32) (rg : Int32) (rr : Int32) (pl : Int32) (lm : Int32) (nx : Int32) (av : Int64) (sp : Int32) (le : Int32) (la : Int32) (B : Nat → Int32) (L : List Int32) (y : Int32) (r : Int32) (uu : Int32 × Int32 × Int32 × Int32 × Int32 × List Int32) : Prop := match uu with
  | (th2, op2, lo2, cd2, rm2, L2) => th2 = mcx op y ∧ (mcx op y ≤ 0 → r = nI L2.length - bg ∧ op2 = 0 ∧ lo2 = (mcb rw bg lo cd wd rm L y).1 ∧ cd2 = (mcb rw bg lo cd wd rm L y).2.1 ∧ rm2 = (mcb rw bg lo cd wd rm L y).2.2.1 ∧ L2 = mcD (mcb rw bg lo cd wd rm L y).2.2.2 bg) ∧ (¬ mcx op y ≤ 0 → r = 0 ∧ op2 = op ∧ lo2 = lo ∧ cd2 = cd ∧ rm2 = rm ∧ L2 = L)
def qc_M_close (D : va_G) (k : gK) (h0 pB : Nat) (pP : Nat) (pO : Nat) (pS : Nat) (pK : Nat) (th : Int32) (sz : Int32) (op : Int32) (rw : Int32) (bg : Int32) (lo : Int32) (cd : Int32) (wd : Int32) (rm : Int32) (rg : Int32) (rr : Int32) (pl : Int32) (lm : Int32) (nx : Int32) (av : Int64) (sp : Int32) (le : Int32) (la : Int32) (B : Nat → Int32) (L : List Int32) (y : Int32) (A : Nat → Prop) : Array Value → State → Outcome → State → Prop := va_Qi (po_M_close k h0 pB pP pO pS pK th sz op rw bg lo cd wd rm rg rr pl lm nx av sp le la B L y) (fun uu t => ∃ zz, ex_M_close k h0 pB pP pO pS pK th sz op rw bg lo cd wd rm rg rr pl lm nx av sp le la B L y zz uu ∧ GP D A (wo_M_close k h0 pB pP pO pS pK th sz op rw bg lo cd wd rm rg rr pl lm nx av sp le la B L y zz uu) t) A
set_option maxHeartbeats 1000000 in
set_option maxRecDepth 100000 in
theorem lp_M_close_37 (l : Launch) (hl9 : l.stackTraces = false) (D : va_G) (k : gK) (h0 pB : Nat) (pP : Nat) (pO : Nat) (pS : Nat) (pK : Nat) (th : Int32) (sz : Int32) (op : Int32) (rw : Int32) (bg : Int32) (lo : Int32) (cd : Int32) (wd : Int32) (rm : Int32) (rg : Int32) (rr : Int32) (pl : Int32) (lm : Int32) (nx : Int32) (av : Int64) (sp : Int32) (le : Int32) (la : Int32) (B : Nat → Int32) (L : List Int32) (y : Int32) {p : Program} {e : Env} {s : State} {m : MethodId} {below : List Frame} {meth : Method} {c : Code} {A : Nat → Prop} (Cc : Cx p s m ([.ref h0, .int y] : List Value).toArray meth c b_Mdl_close 4 (some .int) y_Mdl_close.cls y_Mdl_close.name D k A) (hA : ∀ q : Nat, s.heap.size ≤ q → A q) :
    ∀ (t : Nat) (i1 : Int32) (th1 : Int32) (rm1 : Int32) (B1 : Nat → Int32) (sz1 : Int32) (L1 : List Int32), (row_ok 65536 B1 sz1 L1) → (¬ bg < 0) → (th1 = mcx op y ∧ mcx op y ≤ 0) → (¬ rw = 0) → (mcl 8 bg 0 rm L = mcl t bg i1 rm1 L1) → (mrk t rm1) → (rm1 = 0 ∨ 0 < L1.length) → (t ≤ 8) → ∀ (H : Heap) (locs : List Loc) (cells slots : Nat), cells = 0 ∧ slots = 0 → va_P D vwCl [(h0, .inr (9, [.ref pP, .ref pO, .int th1, .int sz1, .ref pB, .ref pS, .ref pK, .int op, .int rw, .int bg, .int lo, .int cd, .int wd, .int rm1, .int rg, .int rr, .int pl, .int lm, .int nx, .long av, .int sp, .int le, .int la])), (pB, .inl (k.1, 65536, .inl B1))] H → va_D A [(h0, .inr (9, [.ref pP, .ref pO, .int th1, .int sz1, .ref pB, .ref pS, .ref pK, .int op, .int rw, .int bg, .int lo, .int cd, .int wd, .int rm1, .int rg, .int rr, .int pl, .int lm, .int nx, .long av, .int sp, .int le, .int la])), (pB, .inl (k.1, 65536, .inl B1))] → va_S A s.heap H locs → ∀ ls : Array Slot, lv_has ls 4 [(2, .int i1), (0, .ref h0)] → W p l e ({ frames := 3, cells := 0, slots := 0, locals := 61 }) s m ([.ref h0, .int y] : List Value).toArray below meth c H locs cells slots (MQ below (qc_M_close D k h0 pB pP pO pS pK th sz op rw bg lo cd wd rm rg rr pl lm nx av sp le la B L y A) ([.ref h0, .int y] : List Value).toArray s 0 0 A) (F0 m 37 ls []) := by
  have Cc9 := Cc
  obtain ⟨hx, hb, hml, hr, hlk, hown, hts, hK, hE, hin⟩ := Cc
  intro t
  induction t with
  | zero =>
    intro i1 th1 rm1 B1 sz1 L1 hM1 hbg hth hrw hF hrk hn1 ht H locs cells slots hrm hP hD hS ls hl
    refine lv_aload_n hx hb d_Mdl_close_37 rfl (lv_at hl 1 rfl) ?_
    refine va_get (D := D) (ci := 9) (v := .int rm1) (C := R_Mdl) (T := T_Mdl) (N := 23) hx hb hts inw_Mdl hown hK hP 0 rfl rfl 13 (by decide) (hts (.fieldLink R_Mdl 63 "LikelyBitsModel" "room" "I") mw_335) (fun _ h9 => h9) rfl d_Mdl_close_38 ?_
    refine lv_if_le (tgt := 56) hx hb d_Mdl_close_41 (by decide) (fun c1 => ?_) (fun c1 => ?_)
    · refine lv_goto (tgt := 137) hx hb d_Mdl_close_56 (by decide) ?_
      refine lv_aload_n hx hb d_Mdl_close_137 rfl (lv_at hl 1 rfl) ?_
      refine kqi (va_runV (As := []) (rest := []) ⟨hx, hb, hml, hown, hts⟩ (c_M_hasLast l hl9 D k h0 pP pO pB pS pK th1 sz1 op rw bg lo cd wd rm1 rg rr pl lm nx av sp le la ) (cwV 0 hts (gV mw_328 mw_329 mw_330 mw_331 mw_332) rfl rfl rfl (by decide +kernel) ⟨(Nat.le_of_ble_eq_true rfl), (Nat.le_of_ble_eq_true rfl)⟩) (kRecv (q := (R_Mdl, T_Mdl, 23)) (q0 := 0) (ci := 9) hK hP rfl rfl (kPreR (wc := [(h0, .inr (9, [.ref pP, .ref pO, .int th1, .int sz1, .ref pB, .ref pS, .ref pK, .int op, .int rw, .int bg, .int lo, .int cd, .int wd, .int rm1, .int rg, .int rr, .int pl, .int lm, .int nx, .long av, .int sp, .int le, .int la]))]) hE hK hP hS [0] rfl)) rfl rfl hl.1 rfl (lv_room (Nat.le_of_ble_eq_true rfl)) d_Mdl_close_138 ⟨(by first | omega | (dsimp only; omega)), (by first | omega | (dsimp only; omega))⟩) hP hS (fun r2 H locs hw hP hS => ?_)
      replace hw := hw.symm
      subst hw
      refine lv_if_eq (tgt := 171) hx hb d_Mdl_close_141 (by decide) (fun c3 => ?_) (fun c3 => ?_)
      · have hq4 : nI L1.length ≤ bg := by rw [← hM1.1]; exact mhl_eq c3
        refine lv_aload_n hx hb d_Mdl_close_171 rfl (lv_at hl 1 rfl) ?_
        refine lv_iconst (v := 0) hx hb d_Mdl_close_172 (by decide) ?_
        refine va_put (D := D) (ci := 9) (v := .int 0) (ty := .boolean) (C := R_Mdl) (T := T_Mdl) (N := 23) hx hb hts inw_Mdl ty_Mdl tyok_Mdl nm_Mdl hown hK hP hD hS 0 rfl rfl 7 (by decide) (hts (.fieldLink R_Mdl 33 "LikelyBitsModel" "open" "Z") mw_325) (fun _ h9 => h9) rfl (by decide +kernel) rfl rfl (Nat.le_of_ble_eq_true rfl) d_Mdl_close_173 (fun H locs hP hD hS => ?_)
        have hP : va_P D vwCl [(h0, .inr (9, [.ref pP, .ref pO, .int th1, .int sz1, .ref pB, .ref pS, .ref pK, .int 0, .int rw, .int bg, .int lo, .int cd, .int wd, .int rm1, .int rg, .int rr, .int pl, .int lm, .int nx, .long av, .int sp, .int le, .int la])), (pB, .inl (k.1, 65536, .inl B1))] H := hP
        have hD : va_D A [(h0, .inr (9, [.ref pP, .ref pO, .int th1, .int sz1, .ref pB, .ref pS, .ref pK, .int 0, .int rw, .int bg, .int lo, .int cd, .int wd, .int rm1, .int rg, .int rr, .int pl, .int lm, .int nx, .long av, .int sp, .int le, .int la])), (pB, .inl (k.1, 65536, .inl B1))] := hD
        refine lv_aload_n hx hb d_Mdl_close_176 rfl (lv_at hl 1 rfl) ?_
        refine va_get (D := D) (ci := 9) (v := .int sz1) (C := R_Mdl) (T := T_Mdl) (N := 23) hx hb hts inw_Mdl hown hK hP 0 rfl rfl 3 (by decide) (hts (.fieldLink R_Mdl 30 "LikelyBitsModel" "size" "I") mw_324) (fun _ h9 => h9) rfl d_Mdl_close_177 ?_
        refine lv_aload_n hx hb d_Mdl_close_180 rfl (lv_at hl 1 rfl) ?_
        refine va_get (D := D) (ci := 9) (v := .int bg) (C := R_Mdl) (T := T_Mdl) (N := 23) hx hb hts inw_Mdl hown hK hP 0 rfl rfl 9 (by decide) (hts (.fieldLink R_Mdl 53 "LikelyBitsModel" "begin" "I") mw_327) (fun _ h9 => h9) rfl d_Mdl_close_181 ?_
        refine lv_isub hx hb d_Mdl_close_184 ?_
        exact kri (wo := wo_M_close k h0 pB pP pO pS pK th sz op rw bg lo cd wd rm rg rr pl lm nx av sp le la B L y) hx hb hr hlk hP hD hS (th1, 0, lo, cd, rm1, L1) (B1, sz1) (by have hB : mcb rw bg lo cd wd rm L y = (lo, cd, rm1, L1) := (by rw [mcb, if_neg hrw, hF, mcl]); have hT : mcD L1 bg = L1 := (by rw [mcD, if_pos hq4]); have hRf : row_ok 65536 _ sz1 L1 := (by exact hM1); exact ⟨hth.1, fun _ => (by rw [hB]; exact ⟨by rw [hRf.1], rfl, rfl, rfl, rfl, hT.symm⟩), fun h => absurd hth.2 h⟩) (by unfold ex_M_close; exact hM1) [0, 1] rfl (by decide) (by omega) (by omega) d_Mdl_close_185
      · have hq5 : ¬ nI L1.length ≤ bg := by rw [← hM1.1]; exact mhl_ne c3
        have hq5n := mhl_ne c3
        refine lv_aload_n hx hb d_Mdl_close_144 rfl (lv_at hl 1 rfl) ?_
        refine va_get (D := D) (ci := 9) (v := .ref pB) (C := R_Mdl) (T := T_Mdl) (N := 23) hx hb hts inw_Mdl hown hK hP 0 rfl rfl 4 (by decide) (hts (.fieldLink R_Mdl 17 "LikelyBitsModel" "bytes" "[I") mw_333) (fun _ h9 => h9) rfl d_Mdl_close_145 ?_
        refine lv_aload_n hx hb d_Mdl_close_148 rfl (lv_at hl 1 rfl) ?_
        refine va_get (D := D) (ci := 9) (v := .int sz1) (C := R_Mdl) (T := T_Mdl) (N := 23) hx hb hts inw_Mdl hown hK hP 0 rfl rfl 3 (by decide) (hts (.fieldLink R_Mdl 30 "LikelyBitsModel" "size" "I") mw_324) (fun _ h9 => h9) rfl d_Mdl_close_149 ?_
        refine lv_iconst (v := 1) hx hb d_Mdl_close_152 (by decide) ?_
        refine lv_isub hx hb d_Mdl_close_153 ?_
        refine va_iald hx hb hK hP 1 0 rfl rfl (m_lin hM1 hbg (mhl_ne c3)) d_Mdl_close_154 ?_
        refine lv_sipush (v := 255) hx hb d_Mdl_close_155 (by decide) ?_
        refine lv_icmp_ne (tgt := 171) hx hb d_Mdl_close_158 (by decide) (fun c6 => ?_) (fun c6 => ?_)
        · have hq7 : ¬ mlast L1 = 255 := fun q => c6 ((m_lv hM1 hbg (mhl_ne c3)).trans q)
          refine lv_aload_n hx hb d_Mdl_close_171 rfl (lv_at hl 1 rfl) ?_
          refine lv_iconst (v := 0) hx hb d_Mdl_close_172 (by decide) ?_
          refine va_put (D := D) (ci := 9) (v := .int 0) (ty := .boolean) (C := R_Mdl) (T := T_Mdl) (N := 23) hx hb hts inw_Mdl ty_Mdl tyok_Mdl nm_Mdl hown hK hP hD hS 0 rfl rfl 7 (by decide) (hts (.fieldLink R_Mdl 33 "LikelyBitsModel" "open" "Z") mw_325) (fun _ h9 => h9) rfl (by decide +kernel) rfl rfl (Nat.le_of_ble_eq_true rfl) d_Mdl_close_173 (fun H locs hP hD hS => ?_)
          have hP : va_P D vwCl [(h0, .inr (9, [.ref pP, .ref pO, .int th1, .int sz1, .ref pB, .ref pS, .ref pK, .int 0, .int rw, .int bg, .int lo, .int cd, .int wd, .int rm1, .int rg, .int rr, .int pl, .int lm, .int nx, .long av, .int sp, .int le, .int la])), (pB, .inl (k.1, 65536, .inl B1))] H := hP
          have hD : va_D A [(h0, .inr (9, [.ref pP, .ref pO, .int th1, .int sz1, .ref pB, .ref pS, .ref pK, .int 0, .int rw, .int bg, .int lo, .int cd, .int wd, .int rm1, .int rg, .int rr, .int pl, .int lm, .int nx, .long av, .int sp, .int le, .int la])), (pB, .inl (k.1, 65536, .inl B1))] := hD
          refine lv_aload_n hx hb d_Mdl_close_176 rfl (lv_at hl 1 rfl) ?_
          refine va_get (D := D) (ci := 9) (v := .int sz1) (C := R_Mdl) (T := T_Mdl) (N := 23) hx hb hts inw_Mdl hown hK hP 0 rfl rfl 3 (by decide) (hts (.fieldLink R_Mdl 30 "LikelyBitsModel" "size" "I") mw_324) (fun _ h9 => h9) rfl d_Mdl_close_177 ?_
          refine lv_aload_n hx hb d_Mdl_close_180 rfl (lv_at hl 1 rfl) ?_
          refine va_get (D := D) (ci := 9) (v := .int bg) (C := R_Mdl) (T := T_Mdl) (N := 23) hx hb hts inw_Mdl hown hK hP 0 rfl rfl 9 (by decide) (hts (.fieldLink R_Mdl 53 "LikelyBitsModel" "begin" "I") mw_327) (fun _ h9 => h9) rfl d_Mdl_close_181 ?_
          refine lv_isub hx hb d_Mdl_close_184 ?_
          exact kri (wo := wo_M_close k h0 pB pP pO pS pK th sz op rw bg lo cd wd rm rg rr pl lm nx av sp le la B L y) hx hb hr hlk hP hD hS (th1, 0, lo, cd, rm1, L1) (B1, sz1) (by have hB : mcb rw bg lo cd wd rm L y = (lo, cd, rm1, L1) := (by rw [mcb, if_neg hrw, hF, mcl]); have hT : mcD L1 bg = L1 := (by rw [mcD, if_neg hq5, if_neg hq7]); have hRf : row_ok 65536 _ sz1 L1 := (by exact hM1); exact ⟨hth.1, fun _ => (by rw [hB]; exact ⟨by rw [hRf.1], rfl, rfl, rfl, rfl, hT.symm⟩), fun h => absurd hth.2 h⟩) (by unfold ex_M_close; exact hM1) [0, 1] rfl (by decide) (by omega) (by omega) d_Mdl_close_185
        · have hq8 : mlast L1 = 255 := (m_lv hM1 hbg (mhl_ne c3)).symm.trans c6
          refine lv_aload_n hx hb d_Mdl_close_161 rfl (lv_at hl 1 rfl) ?_
          refine lv_dup hx hb d_Mdl_close_162 rfl ?_
          refine va_get (D := D) (ci := 9) (v := .int sz1) (C := R_Mdl) (T := T_Mdl) (N := 23) hx hb hts inw_Mdl hown hK hP 0 rfl rfl 3 (by decide) (hts (.fieldLink R_Mdl 30 "LikelyBitsModel" "size" "I") mw_324) (fun _ h9 => h9) rfl d_Mdl_close_163 ?_
          refine lv_iconst (v := 1) hx hb d_Mdl_close_166 (by decide) ?_
          refine lv_isub hx hb d_Mdl_close_167 ?_
          refine lv_topi (fun x9 ex9 => ?_)
          refine va_put (D := D) (ci := 9) (v := .int x9) (ty := .int) (C := R_Mdl) (T := T_Mdl) (N := 23) hx hb hts inw_Mdl ty_Mdl tyok_Mdl nm_Mdl hown hK hP hD hS 0 rfl rfl 3 (by decide) (hts (.fieldLink R_Mdl 30 "LikelyBitsModel" "size" "I") mw_324) (fun _ h9 => h9) rfl (by decide +kernel) rfl rfl (Nat.le_of_ble_eq_true rfl) d_Mdl_close_168 (fun H locs hP hD hS => ?_)
          have hP : va_P D vwCl [(h0, .inr (9, [.ref pP, .ref pO, .int th1, .int x9, .ref pB, .ref pS, .ref pK, .int op, .int rw, .int bg, .int lo, .int cd, .int wd, .int rm1, .int rg, .int rr, .int pl, .int lm, .int nx, .long av, .int sp, .int le, .int la])), (pB, .inl (k.1, 65536, .inl B1))] H := hP
          have hD : va_D A [(h0, .inr (9, [.ref pP, .ref pO, .int th1, .int x9, .ref pB, .ref pS, .ref pK, .int op, .int rw, .int bg, .int lo, .int cd, .int wd, .int rm1, .int rg, .int rr, .int pl, .int lm, .int nx, .long av, .int sp, .int le, .int la])), (pB, .inl (k.1, 65536, .inl B1))] := hD
          refine lv_aload_n hx hb d_Mdl_close_171 rfl (lv_at hl 1 rfl) ?_
          refine lv_iconst (v := 0) hx hb d_Mdl_close_172 (by decide) ?_
          refine va_put (D := D) (ci := 9) (v := .int 0) (ty := .boolean) (C := R_Mdl) (T := T_Mdl) (N := 23) hx hb hts inw_Mdl ty_Mdl tyok_Mdl nm_Mdl hown hK hP hD hS 0 rfl rfl 7 (by decide) (hts (.fieldLink R_Mdl 33 "LikelyBitsModel" "open" "Z") mw_325) (fun _ h9 => h9) rfl (by decide +kernel) rfl rfl (Nat.le_of_ble_eq_true rfl) d_Mdl_close_173 (fun H locs hP hD hS => ?_)
          have hP : va_P D vwCl [(h0, .inr (9, [.ref pP, .ref pO, .int th1, .int x9, .ref pB, .ref pS, .ref pK, .int 0, .int rw, .int bg, .int lo, .int cd, .int wd, .int rm1, .int rg, .int rr, .int pl, .int lm, .int nx, .long av, .int sp, .int le, .int la])), (pB, .inl (k.1, 65536, .inl B1))] H := hP
          have hD : va_D A [(h0, .inr (9, [.ref pP, .ref pO, .int th1, .int x9, .ref pB, .ref pS, .ref pK, .int 0, .int rw, .int bg, .int lo, .int cd, .int wd, .int rm1, .int rg, .int rr, .int pl, .int lm, .int nx, .long av, .int sp, .int le, .int la])), (pB, .inl (k.1, 65536, .inl B1))] := hD
          refine lv_aload_n hx hb d_Mdl_close_176 rfl (lv_at hl 1 rfl) ?_
          refine va_get (D := D) (ci := 9) (v := .int x9) (C := R_Mdl) (T := T_Mdl) (N := 23) hx hb hts inw_Mdl hown hK hP 0 rfl rfl 3 (by decide) (hts (.fieldLink R_Mdl 30 "LikelyBitsModel" "size" "I") mw_324) (fun _ h9 => h9) rfl d_Mdl_close_177 ?_
          refine lv_aload_n hx hb d_Mdl_close_180 rfl (lv_at hl 1 rfl) ?_
          refine va_get (D := D) (ci := 9) (v := .int bg) (C := R_Mdl) (T := T_Mdl) (N := 23) hx hb hts inw_Mdl hown hK hP 0 rfl rfl 9 (by decide) (hts (.fieldLink R_Mdl 53 "LikelyBitsModel" "begin" "I") mw_327) (fun _ h9 => h9) rfl d_Mdl_close_181 ?_
          refine lv_isub hx hb d_Mdl_close_184 ?_
          exact kri (wo := wo_M_close k h0 pB pP pO pS pK th sz op rw bg lo cd wd rm rg rr pl lm nx av sp le la B L y) hx hb hr hlk hP hD hS (th1, 0, lo, cd, rm1, L1.dropLast) (B1, x9) (by have hB : mcb rw bg lo cd wd rm L y = (lo, cd, rm1, L1) := (by rw [mcb, if_neg hrw, hF, mcl]); have hT : mcD L1 bg = L1.dropLast := (by rw [mcD, if_neg hq5, if_pos hq8]); have hRf : row_ok 65536 _ x9 L1.dropLast := (by rw [ex9]; exact (m_drop hM1 hbg (mhl_ne c3))); exact ⟨hth.1, fun _ => (by rw [hB]; exact ⟨by rw [hRf.1], rfl, rfl, rfl, rfl, hT.symm⟩), fun h => absurd hth.2 h⟩) (by unfold ex_M_close; rw [ex9]; exact (m_drop hM1 hbg (mhl_ne c3))) [0, 1] rfl (by decide) (by omega) (by omega) d_Mdl_close_185
    · exact absurd (mrk_0 hrk) c1
  | succ t ih =>
    intro i1 th1 rm1 B1 sz1 L1 hM1 hbg hth hrw hF hrk hn1 ht H locs cells slots hrm hP hD hS ls hl
    refine lv_aload_n hx hb d_Mdl_close_37 rfl (lv_at hl 1 rfl) ?_
    refine va_get (D := D) (ci := 9) (v := .int rm1) (C := R_Mdl) (T := T_Mdl) (N := 23) hx hb hts inw_Mdl hown hK hP 0 rfl rfl 13 (by decide) (hts (.fieldLink R_Mdl 63 "LikelyBitsModel" "room" "I") mw_335) (fun _ h9 => h9) rfl d_Mdl_close_38 ?_
    refine lv_if_le (tgt := 56) hx hb d_Mdl_close_41 (by decide) (fun c10 => ?_) (fun c10 => ?_)
    · refine lv_goto (tgt := 137) hx hb d_Mdl_close_56 (by decide) ?_
      refine lv_aload_n hx hb d_Mdl_close_137 rfl (lv_at hl 1 rfl) ?_
      refine kqi (va_runV (As := []) (rest := []) ⟨hx, hb, hml, hown, hts⟩ (c_M_hasLast l hl9 D k h0 pP pO pB pS pK th1 sz1 op rw bg lo cd wd rm1 rg rr pl lm nx av sp le la ) (cwV 0 hts (gV mw_328 mw_329 mw_330 mw_331 mw_332) rfl rfl rfl (by decide +kernel) ⟨(Nat.le_of_ble_eq_true rfl), (Nat.le_of_ble_eq_true rfl)⟩) (kRecv (q := (R_Mdl, T_Mdl, 23)) (q0 := 0) (ci := 9) hK hP rfl rfl (kPreR (wc := [(h0, .inr (9, [.ref pP, .ref pO, .int th1, .int sz1, .ref pB, .ref pS, .ref pK, .int op, .int rw, .int bg, .int lo, .int cd, .int wd, .int rm1, .int rg, .int rr, .int pl, .int lm, .int nx, .long av, .int sp, .int le, .int la]))]) hE hK hP hS [0] rfl)) rfl rfl hl.1 rfl (lv_room (Nat.le_of_ble_eq_true rfl)) d_Mdl_close_138 ⟨(by first | omega | (dsimp only; omega)), (by first | omega | (dsimp only; omega))⟩) hP hS (fun r11 H locs hw hP hS => ?_)
      replace hw := hw.symm
      subst hw
      refine lv_if_eq (tgt := 171) hx hb d_Mdl_close_141 (by decide) (fun c12 => ?_) (fun c12 => ?_)
      · have hq13 : nI L1.length ≤ bg := by rw [← hM1.1]; exact mhl_eq c12
        refine lv_aload_n hx hb d_Mdl_close_171 rfl (lv_at hl 1 rfl) ?_
        refine lv_iconst (v := 0) hx hb d_Mdl_close_172 (by decide) ?_
        refine va_put (D := D) (ci := 9) (v := .int 0) (ty := .boolean) (C := R_Mdl) (T := T_Mdl) (N := 23) hx hb hts inw_Mdl ty_Mdl tyok_Mdl nm_Mdl hown hK hP hD hS 0 rfl rfl 7 (by decide) (hts (.fieldLink R_Mdl 33 "LikelyBitsModel" "open" "Z") mw_325) (fun _ h9 => h9) rfl (by decide +kernel) rfl rfl (Nat.le_of_ble_eq_true rfl) d_Mdl_close_173 (fun H locs hP hD hS => ?_)
        have hP : va_P D vwCl [(h0, .inr (9, [.ref pP, .ref pO, .int th1, .int sz1, .ref pB, .ref pS, .ref pK, .int 0, .int rw, .int bg, .int lo, .int cd, .int wd, .int rm1, .int rg, .int rr, .int pl, .int lm, .int nx, .long av, .int sp, .int le, .int la])), (pB, .inl (k.1, 65536, .inl B1))] H := hP
        have hD : va_D A [(h0, .inr (9, [.ref pP, .ref pO, .int th1, .int sz1, .ref pB, .ref pS, .ref pK, .int 0, .int rw, .int bg, .int lo, .int cd, .int wd, .int rm1, .int rg, .int rr, .int pl, .int lm, .int nx, .long av, .int sp, .int le, .int la])), (pB, .inl (k.1, 65536, .inl B1))] := hD
        refine lv_aload_n hx hb d_Mdl_close_176 rfl (lv_at hl 1 rfl) ?_
        refine va_get (D := D) (ci := 9) (v := .int sz1) (C := R_Mdl) (T := T_Mdl) (N := 23) hx hb hts inw_Mdl hown hK hP 0 rfl rfl 3 (by decide) (hts (.fieldLink R_Mdl 30 "LikelyBitsModel" "size" "I") mw_324) (fun _ h9 => h9) rfl d_Mdl_close_177 ?_
        refine lv_aload_n hx hb d_Mdl_close_180 rfl (lv_at hl 1 rfl) ?_
        refine va_get (D := D) (ci := 9) (v := .int bg) (C := R_Mdl) (T := T_Mdl) (N := 23) hx hb hts inw_Mdl hown hK hP 0 rfl rfl 9 (by decide) (hts (.fieldLink R_Mdl 53 "LikelyBitsModel" "begin" "I") mw_327) (fun _ h9 => h9) rfl d_Mdl_close_181 ?_
        refine lv_isub hx hb d_Mdl_close_184 ?_
        exact kri (wo := wo_M_close k h0 pB pP pO pS pK th sz op rw bg lo cd wd rm rg rr pl lm nx av sp le la B L y) hx hb hr hlk hP hD hS (th1, 0, lo, cd, rm1, L1) (B1, sz1) (by have hB : mcb rw bg lo cd wd rm L y = (lo, cd, rm1, L1) := (by rw [mcb, if_neg hrw, hF, mcl, if_pos c10]); have hT : mcD L1 bg = L1 := (by rw [mcD, if_pos hq13]); have hRf : row_ok 65536 _ sz1 L1 := (by exact hM1); exact ⟨hth.1, fun _ => (by rw [hB]; exact ⟨by rw [hRf.1], rfl, rfl, rfl, rfl, hT.symm⟩), fun h => absurd hth.2 h⟩) (by unfold ex_M_close; exact hM1) [0, 1] rfl (by decide) (by omega) (by omega) d_Mdl_close_185
      · have hq14 : ¬ nI L1.length ≤ bg := by rw [← hM1.1]; exact mhl_ne c12
        have hq14n := mhl_ne c12
        refine lv_aload_n hx hb d_Mdl_close_144 rfl (lv_at hl 1 rfl) ?_
        refine va_get (D := D) (ci := 9) (v := .ref pB) (C := R_Mdl) (T := T_Mdl) (N := 23) hx hb hts inw_Mdl hown hK hP 0 rfl rfl 4 (by decide) (hts (.fieldLink R_Mdl 17 "LikelyBitsModel" "bytes" "[I") mw_333) (fun _ h9 => h9) rfl d_Mdl_close_145 ?_
        refine lv_aload_n hx hb d_Mdl_close_148 rfl (lv_at hl 1 rfl) ?_
        refine va_get (D := D) (ci := 9) (v := .int sz1) (C := R_Mdl) (T := T_Mdl) (N := 23) hx hb hts inw_Mdl hown hK hP 0 rfl rfl 3 (by decide) (hts (.fieldLink R_Mdl 30 "LikelyBitsModel" "size" "I") mw_324) (fun _ h9 => h9) rfl d_Mdl_close_149 ?_
        refine lv_iconst (v := 1) hx hb d_Mdl_close_152 (by decide) ?_
        refine lv_isub hx hb d_Mdl_close_153 ?_
        refine va_iald hx hb hK hP 1 0 rfl rfl (m_lin hM1 hbg (mhl_ne c12)) d_Mdl_close_154 ?_
        refine lv_sipush (v := 255) hx hb d_Mdl_close_155 (by decide) ?_
        refine lv_icmp_ne (tgt := 171) hx hb d_Mdl_close_158 (by decide) (fun c15 => ?_) (fun c15 => ?_)
        · have hq16 : ¬ mlast L1 = 255 := fun q => c15 ((m_lv hM1 hbg (mhl_ne c12)).trans q)
          refine lv_aload_n hx hb d_Mdl_close_171 rfl (lv_at hl 1 rfl) ?_
          refine lv_iconst (v := 0) hx hb d_Mdl_close_172 (by decide) ?_
          refine va_put (D := D) (ci := 9) (v := .int 0) (ty := .boolean) (C := R_Mdl) (T := T_Mdl) (N := 23) hx hb hts inw_Mdl ty_Mdl tyok_Mdl nm_Mdl hown hK hP hD hS 0 rfl rfl 7 (by decide) (hts (.fieldLink R_Mdl 33 "LikelyBitsModel" "open" "Z") mw_325) (fun _ h9 => h9) rfl (by decide +kernel) rfl rfl (Nat.le_of_ble_eq_true rfl) d_Mdl_close_173 (fun H locs hP hD hS => ?_)
          have hP : va_P D vwCl [(h0, .inr (9, [.ref pP, .ref pO, .int th1, .int sz1, .ref pB, .ref pS, .ref pK, .int 0, .int rw, .int bg, .int lo, .int cd, .int wd, .int rm1, .int rg, .int rr, .int pl, .int lm, .int nx, .long av, .int sp, .int le, .int la])), (pB, .inl (k.1, 65536, .inl B1))] H := hP
          have hD : va_D A [(h0, .inr (9, [.ref pP, .ref pO, .int th1, .int sz1, .ref pB, .ref pS, .ref pK, .int 0, .int rw, .int bg, .int lo, .int cd, .int wd, .int rm1, .int rg, .int rr, .int pl, .int lm, .int nx, .long av, .int sp, .int le, .int la])), (pB, .inl (k.1, 65536, .inl B1))] := hD
          refine lv_aload_n hx hb d_Mdl_close_176 rfl (lv_at hl 1 rfl) ?_
          refine va_get (D := D) (ci := 9) (v := .int sz1) (C := R_Mdl) (T := T_Mdl) (N := 23) hx hb hts inw_Mdl hown hK hP 0 rfl rfl 3 (by decide) (hts (.fieldLink R_Mdl 30 "LikelyBitsModel" "size" "I") mw_324) (fun _ h9 => h9) rfl d_Mdl_close_177 ?_
          refine lv_aload_n hx hb d_Mdl_close_180 rfl (lv_at hl 1 rfl) ?_
          refine va_get (D := D) (ci := 9) (v := .int bg) (C := R_Mdl) (T := T_Mdl) (N := 23) hx hb hts inw_Mdl hown hK hP 0 rfl rfl 9 (by decide) (hts (.fieldLink R_Mdl 53 "LikelyBitsModel" "begin" "I") mw_327) (fun _ h9 => h9) rfl d_Mdl_close_181 ?_
          refine lv_isub hx hb d_Mdl_close_184 ?_
          exact kri (wo := wo_M_close k h0 pB pP pO pS pK th sz op rw bg lo cd wd rm rg rr pl lm nx av sp le la B L y) hx hb hr hlk hP hD hS (th1, 0, lo, cd, rm1, L1) (B1, sz1) (by have hB : mcb rw bg lo cd wd rm L y = (lo, cd, rm1, L1) := (by rw [mcb, if_neg hrw, hF, mcl, if_pos c10]); have hT : mcD L1 bg = L1 := (by rw [mcD, if_neg hq14, if_neg hq16]); have hRf : row_ok 65536 _ sz1 L1 := (by exact hM1); exact ⟨hth.1, fun _ => (by rw [hB]; exact ⟨by rw [hRf.1], rfl, rfl, rfl, rfl, hT.symm⟩), fun h => absurd hth.2 h⟩) (by unfold ex_M_close; exact hM1) [0, 1] rfl (by decide) (by omega) (by omega) d_Mdl_close_185
        · have hq17 : mlast L1 = 255 := (m_lv hM1 hbg (mhl_ne c12)).symm.trans c15
          refine lv_aload_n hx hb d_Mdl_close_161 rfl (lv_at hl 1 rfl) ?_
          refine lv_dup hx hb d_Mdl_close_162 rfl ?_
          refine va_get (D := D) (ci := 9) (v := .int sz1) (C := R_Mdl) (T := T_Mdl) (N := 23) hx hb hts inw_Mdl hown hK hP 0 rfl rfl 3 (by decide) (hts (.fieldLink R_Mdl 30 "LikelyBitsModel" "size" "I") mw_324) (fun _ h9 => h9) rfl d_Mdl_close_163 ?_
          refine lv_iconst (v := 1) hx hb d_Mdl_close_166 (by decide) ?_
          refine lv_isub hx hb d_Mdl_close_167 ?_
          refine lv_topi (fun x18 ex18 => ?_)
          refine va_put (D := D) (ci := 9) (v := .int x18) (ty := .int) (C := R_Mdl) (T := T_Mdl) (N := 23) hx hb hts inw_Mdl ty_Mdl tyok_Mdl nm_Mdl hown hK hP hD hS 0 rfl rfl 3 (by decide) (hts (.fieldLink R_Mdl 30 "LikelyBitsModel" "size" "I") mw_324) (fun _ h9 => h9) rfl (by decide +kernel) rfl rfl (Nat.le_of_ble_eq_true rfl) d_Mdl_close_168 (fun H locs hP hD hS => ?_)
          have hP : va_P D vwCl [(h0, .inr (9, [.ref pP, .ref pO, .int th1, .int x18, .ref pB, .ref pS, .ref pK, .int op, .int rw, .int bg, .int lo, .int cd, .int wd, .int rm1, .int rg, .int rr, .int pl, .int lm, .int nx, .long av, .int sp, .int le, .int la])), (pB, .inl (k.1, 65536, .inl B1))] H := hP
          have hD : va_D A [(h0, .inr (9, [.ref pP, .ref pO, .int th1, .int x18, .ref pB, .ref pS, .ref pK, .int op, .int rw, .int bg, .int lo, .int cd, .int wd, .int rm1, .int rg, .int rr, .int pl, .int lm, .int nx, .long av, .int sp, .int le, .int la])), (pB, .inl (k.1, 65536, .inl B1))] := hD
          refine lv_aload_n hx hb d_Mdl_close_171 rfl (lv_at hl 1 rfl) ?_
          refine lv_iconst (v := 0) hx hb d_Mdl_close_172 (by decide) ?_
          refine va_put (D := D) (ci := 9) (v := .int 0) (ty := .boolean) (C := R_Mdl) (T := T_Mdl) (N := 23) hx hb hts inw_Mdl ty_Mdl tyok_Mdl nm_Mdl hown hK hP hD hS 0 rfl rfl 7 (by decide) (hts (.fieldLink R_Mdl 33 "LikelyBitsModel" "open" "Z") mw_325) (fun _ h9 => h9) rfl (by decide +kernel) rfl rfl (Nat.le_of_ble_eq_true rfl) d_Mdl_close_173 (fun H locs hP hD hS => ?_)
          have hP : va_P D vwCl [(h0, .inr (9, [.ref pP, .ref pO, .int th1, .int x18, .ref pB, .ref pS, .ref pK, .int 0, .int rw, .int bg, .int lo, .int cd, .int wd, .int rm1, .int rg, .int rr, .int pl, .int lm, .int nx, .long av, .int sp, .int le, .int la])), (pB, .inl (k.1, 65536, .inl B1))] H := hP
          have hD : va_D A [(h0, .inr (9, [.ref pP, .ref pO, .int th1, .int x18, .ref pB, .ref pS, .ref pK, .int 0, .int rw, .int bg, .int lo, .int cd, .int wd, .int rm1, .int rg, .int rr, .int pl, .int lm, .int nx, .long av, .int sp, .int le, .int la])), (pB, .inl (k.1, 65536, .inl B1))] := hD
          refine lv_aload_n hx hb d_Mdl_close_176 rfl (lv_at hl 1 rfl) ?_
          refine va_get (D := D) (ci := 9) (v := .int x18) (C := R_Mdl) (T := T_Mdl) (N := 23) hx hb hts inw_Mdl hown hK hP 0 rfl rfl 3 (by decide) (hts (.fieldLink R_Mdl 30 "LikelyBitsModel" "size" "I") mw_324) (fun _ h9 => h9) rfl d_Mdl_close_177 ?_
          refine lv_aload_n hx hb d_Mdl_close_180 rfl (lv_at hl 1 rfl) ?_
          refine va_get (D := D) (ci := 9) (v := .int bg) (C := R_Mdl) (T := T_Mdl) (N := 23) hx hb hts inw_Mdl hown hK hP 0 rfl rfl 9 (by decide) (hts (.fieldLink R_Mdl 53 "LikelyBitsModel" "begin" "I") mw_327) (fun _ h9 => h9) rfl d_Mdl_close_181 ?_
          refine lv_isub hx hb d_Mdl_close_184 ?_
          exact kri (wo := wo_M_close k h0 pB pP pO pS pK th sz op rw bg lo cd wd rm rg rr pl lm nx av sp le la B L y) hx hb hr hlk hP hD hS (th1, 0, lo, cd, rm1, L1.dropLast) (B1, x18) (by have hB : mcb rw bg lo cd wd rm L y = (lo, cd, rm1, L1) := (by rw [mcb, if_neg hrw, hF, mcl, if_pos c10]); have hT : mcD L1 bg = L1.dropLast := (by rw [mcD, if_neg hq14, if_pos hq17]); have hRf : row_ok 65536 _ x18 L1.dropLast := (by rw [ex18]; exact (m_drop hM1 hbg (mhl_ne c12))); exact ⟨hth.1, fun _ => (by rw [hB]; exact ⟨by rw [hRf.1], rfl, rfl, rfl, rfl, hT.symm⟩), fun h => absurd hth.2 h⟩) (by unfold ex_M_close; rw [ex18]; exact (m_drop hM1 hbg (mhl_ne c12))) [0, 1] rfl (by decide) (by omega) (by omega) d_Mdl_close_185
    · refine lv_aload_n hx hb d_Mdl_close_44 rfl (lv_at hl 1 rfl) ?_
      refine lv_iload_n hx hb d_Mdl_close_45 rfl (lv_at hl 0 rfl) ?_
      have hs9 := mrw_s (bg := bg) (b := i1) hrk c10 ht hn1
      have hrl : rm1 = 0 → L1.length < 65536 := fun h => absurd h hs9.2.2
      refine kcv (wc := [(h0, .inr (9, [.ref pP, .ref pO, .int th1, .int sz1, .ref pB, .ref pS, .ref pK, .int op, .int rw, .int bg, .int lo, .int cd, .int wd, .int rm1, .int rg, .int rr, .int pl, .int lm, .int nx, .long av, .int sp, .int le, .int la])), (pB, .inl (k.1, 65536, .inl B1))]) (wr := []) (va_runV (As := [.int i1]) (rest := []) ⟨hx, hb, hml, hown, hts⟩ (c_M_writeRaw l hl9 D k h0 pB H.size pP pO pS pK th1 sz1 op rw bg lo cd wd rm1 rg rr pl lm nx av sp le la B1 L1 i1 (by assumption) (by assumption) (by assumption) (by assumption)) (cwV 1 hts (gV mw_407 mw_408 mw_409 mw_331 mw_410) rfl rfl rfl (by decide +kernel) ⟨(Nat.le_of_ble_eq_true rfl), (Nat.le_of_ble_eq_true rfl)⟩) (kRecv (q := (R_Mdl, T_Mdl, 23)) (q0 := 0) (ci := 9) hK hP rfl rfl (kPre (wc := [(h0, .inr (9, [.ref pP, .ref pO, .int th1, .int sz1, .ref pB, .ref pS, .ref pK, .int op, .int rw, .int bg, .int lo, .int cd, .int wd, .int rm1, .int rg, .int rr, .int pl, .int lm, .int nx, .long av, .int sp, .int le, .int la])), (pB, .inl (k.1, 65536, .inl B1))]) hE hK hP hD hS hA [0, 1] rfl (by decide))) rfl rfl hl.1 rfl (lv_room (Nat.le_of_ble_eq_true rfl)) d_Mdl_close_46 ⟨(by first | omega | (dsimp only; omega)), (by first | omega | (dsimp only; omega))⟩) hP hD hS hA [0, 1] [] rfl rfl (by decide) (by decide) (fun zz uu H locs hw24 hz25 hP hD hS => ?_)
      obtain ⟨B_21, sz_22⟩ := zz
      obtain ⟨rm_19, L_20⟩ := uu
      have hw24 : rm_19 = (mrw bg rm1 L1 i1).1 ∧ L_20 = (mrw bg rm1 L1 i1).2 := hw24
      have hz25 : row_ok 65536 B_21 sz_22 L_20 := hz25
      have hP : va_P D vwCl [(h0, .inr (9, [.ref pP, .ref pO, .int th1, .int sz_22, .ref pB, .ref pS, .ref pK, .int op, .int rw, .int bg, .int lo, .int cd, .int wd, .int rm_19, .int rg, .int rr, .int pl, .int lm, .int nx, .long av, .int sp, .int le, .int la])), (pB, .inl (k.1, 65536, .inl B_21))] H := hP
      have hD : va_D A [(h0, .inr (9, [.ref pP, .ref pO, .int th1, .int sz_22, .ref pB, .ref pS, .ref pK, .int op, .int rw, .int bg, .int lo, .int cd, .int wd, .int rm_19, .int rg, .int rr, .int pl, .int lm, .int nx, .long av, .int sp, .int le, .int la])), (pB, .inl (k.1, 65536, .inl B_21))] := hD
      refine lv_iconst (v := 1) hx hb d_Mdl_close_49 (by decide) ?_
      refine lv_iload_n hx hb d_Mdl_close_50 rfl (lv_at hl 0 rfl) ?_
      refine lv_isub hx hb d_Mdl_close_51 ?_
      refine lv_topi (fun x26 ex26 => ?_)
      refine lv_istore_n (lv' := [(2, .int x26), (0, .ref h0)]) hx hb d_Mdl_close_52 rfl hl (by decide) rfl (fun ls hl => ?_)
      refine lv_goto (tgt := 37) hx hb d_Mdl_close_53 (by decide) ?_
      exact ih x26 th1 rm_19 B_21 sz_22 L_20 (by assumption) hbg hth hrw (by have p9 := hw24; rw [hF, mcl, if_neg c10, ← p9.1, ← p9.2, ex26]) (by rw [hw24.1]; exact hs9.1) (Or.inr (by rw [hw24.2]; exact hs9.2.1)) (by omega) H _ _ _ (by exact ⟨by omega, by omega⟩) (ka_P hP (is := [0, 1]) rfl) (hD.sub [0, 1] (by decide) rfl) hS ls (lv_sub hl [0, 1] rfl)
set_option maxHeartbeats 1000000 in
set_option maxRecDepth 100000 in
theorem lp_M_close_119 (l : Launch) (hl9 : l.stackTraces = false) (D : va_G) (k : gK) (h0 pB : Nat) (pP : Nat) (pO : Nat) (pS : Nat) (pK : Nat) (th : Int32) (sz : Int32) (op : Int32) (rw : Int32) (bg : Int32) (lo : Int32) (cd : Int32) (wd : Int32) (rm : Int32) (rg : Int32) (rr : Int32) (pl : Int32) (lm : Int32) (nx : Int32) (av : Int64) (sp : Int32) (le : Int32) (la : Int32) (B : Nat → Int32) (L : List Int32) (y : Int32) {p : Program} {e : Env} {s : State} {m : MethodId} {below : List Frame} {meth : Method} {c : Code} {A : Nat → Prop} (Cc : Cx p s m ([.ref h0, .int y] : List Value).toArray meth c b_Mdl_close 4 (some .int) y_Mdl_close.cls y_Mdl_close.name D k A) (hA : ∀ q : Nat, s.heap.size ≤ q → A q) :
    ∀ (t : Nat) (n1 : Int32) (th1 : Int32) (lo1 : Int32) (cd1 : Int32) (rm1 : Int32) (B1 : Nat → Int32) (sz1 : Int32) (L1 : List Int32), (row_ok 65536 B1 sz1 L1) → (¬ bg < 0) → (th1 = mcx op y ∧ mcx op y ≤ 0) → (rw = 0 ∧ ¬ y = 0) → (cd1 = 0 ∨ ¬ sz1 ≤ bg) → (mcw 2 bg (12 - rm) lo cd rm L = mcw t bg n1 lo1 cd1 rm1 L1) → (mcn t n1) → (L1.length + t ≤ 65536) → ∀ (H : Heap) (locs : List Loc) (cells slots : Nat), cells = 0 ∧ slots = 0 → va_P D vwCl [(h0, .inr (9, [.ref pP, .ref pO, .int th1, .int sz1, .ref pB, .ref pS, .ref pK, .int op, .int rw, .int bg, .int lo1, .int cd1, .int wd, .int rm1, .int rg, .int rr, .int pl, .int lm, .int nx, .long av, .int sp, .int le, .int la])), (pB, .inl (k.1, 65536, .inl B1))] H → va_D A [(h0, .inr (9, [.ref pP, .ref pO, .int th1, .int sz1, .ref pB, .ref pS, .ref pK, .int op, .int rw, .int bg, .int lo1, .int cd1, .int wd, .int rm1, .int rg, .int rr, .int pl, .int lm, .int nx, .long av, .int sp, .int le, .int la])), (pB, .inl (k.1, 65536, .inl B1))] → va_S A s.heap H locs → ∀ ls : Array Slot, lv_has ls 4 [(2, .int n1), (0, .ref h0)] → W p l e ({ frames := 3, cells := 0, slots := 0, locals := 61 }) s m ([.ref h0, .int y] : List Value).toArray below meth c H locs cells slots (MQ below (qc_M_close D k h0 pB pP pO pS pK th sz op rw bg lo cd wd rm rg rr pl lm nx av sp le la B L y A) ([.ref h0, .int y] : List Value).toArray s 0 0 A) (F0 m 119 ls []) := by
  have Cc9 := Cc
  obtain ⟨hx, hb, hml, hr, hlk, hown, hts, hK, hE, hin⟩ := Cc
  intro t
  induction t with
  | zero =>
    intro n1 th1 lo1 cd1 rm1 B1 sz1 L1 hM1 hbg hth hrw hcd1 hF hn1 hl1 H locs cells slots hrm hP hD hS ls hl
    refine lv_iload_n hx hb d_Mdl_close_119 rfl (lv_at hl 0 rfl) ?_
    refine lv_if_le (tgt := 137) hx hb d_Mdl_close_120 (by decide) (fun c1 => ?_) (fun c1 => ?_)
    · refine lv_aload_n hx hb d_Mdl_close_137 rfl (lv_at hl 1 rfl) ?_
      refine kqi (va_runV (As := []) (rest := []) ⟨hx, hb, hml, hown, hts⟩ (c_M_hasLast l hl9 D k h0 pP pO pB pS pK th1 sz1 op rw bg lo1 cd1 wd rm1 rg rr pl lm nx av sp le la ) (cwV 0 hts (gV mw_328 mw_329 mw_330 mw_331 mw_332) rfl rfl rfl (by decide +kernel) ⟨(Nat.le_of_ble_eq_true rfl), (Nat.le_of_ble_eq_true rfl)⟩) (kRecv (q := (R_Mdl, T_Mdl, 23)) (q0 := 0) (ci := 9) hK hP rfl rfl (kPreR (wc := [(h0, .inr (9, [.ref pP, .ref pO, .int th1, .int sz1, .ref pB, .ref pS, .ref pK, .int op, .int rw, .int bg, .int lo1, .int cd1, .int wd, .int rm1, .int rg, .int rr, .int pl, .int lm, .int nx, .long av, .int sp, .int le, .int la]))]) hE hK hP hS [0] rfl)) rfl rfl hl.1 rfl (lv_room (Nat.le_of_ble_eq_true rfl)) d_Mdl_close_138 ⟨(by first | omega | (dsimp only; omega)), (by first | omega | (dsimp only; omega))⟩) hP hS (fun r2 H locs hw hP hS => ?_)
      replace hw := hw.symm
      subst hw
      refine lv_if_eq (tgt := 171) hx hb d_Mdl_close_141 (by decide) (fun c3 => ?_) (fun c3 => ?_)
      · have hq4 : nI L1.length ≤ bg := by rw [← hM1.1]; exact mhl_eq c3
        refine lv_aload_n hx hb d_Mdl_close_171 rfl (lv_at hl 1 rfl) ?_
        refine lv_iconst (v := 0) hx hb d_Mdl_close_172 (by decide) ?_
        refine va_put (D := D) (ci := 9) (v := .int 0) (ty := .boolean) (C := R_Mdl) (T := T_Mdl) (N := 23) hx hb hts inw_Mdl ty_Mdl tyok_Mdl nm_Mdl hown hK hP hD hS 0 rfl rfl 7 (by decide) (hts (.fieldLink R_Mdl 33 "LikelyBitsModel" "open" "Z") mw_325) (fun _ h9 => h9) rfl (by decide +kernel) rfl rfl (Nat.le_of_ble_eq_true rfl) d_Mdl_close_173 (fun H locs hP hD hS => ?_)
        have hP : va_P D vwCl [(h0, .inr (9, [.ref pP, .ref pO, .int th1, .int sz1, .ref pB, .ref pS, .ref pK, .int 0, .int rw, .int bg, .int lo1, .int cd1, .int wd, .int rm1, .int rg, .int rr, .int pl, .int lm, .int nx, .long av, .int sp, .int le, .int la])), (pB, .inl (k.1, 65536, .inl B1))] H := hP
        have hD : va_D A [(h0, .inr (9, [.ref pP, .ref pO, .int th1, .int sz1, .ref pB, .ref pS, .ref pK, .int 0, .int rw, .int bg, .int lo1, .int cd1, .int wd, .int rm1, .int rg, .int rr, .int pl, .int lm, .int nx, .long av, .int sp, .int le, .int la])), (pB, .inl (k.1, 65536, .inl B1))] := hD
        refine lv_aload_n hx hb d_Mdl_close_176 rfl (lv_at hl 1 rfl) ?_
        refine va_get (D := D) (ci := 9) (v := .int sz1) (C := R_Mdl) (T := T_Mdl) (N := 23) hx hb hts inw_Mdl hown hK hP 0 rfl rfl 3 (by decide) (hts (.fieldLink R_Mdl 30 "LikelyBitsModel" "size" "I") mw_324) (fun _ h9 => h9) rfl d_Mdl_close_177 ?_
        refine lv_aload_n hx hb d_Mdl_close_180 rfl (lv_at hl 1 rfl) ?_
        refine va_get (D := D) (ci := 9) (v := .int bg) (C := R_Mdl) (T := T_Mdl) (N := 23) hx hb hts inw_Mdl hown hK hP 0 rfl rfl 9 (by decide) (hts (.fieldLink R_Mdl 53 "LikelyBitsModel" "begin" "I") mw_327) (fun _ h9 => h9) rfl d_Mdl_close_181 ?_
        refine lv_isub hx hb d_Mdl_close_184 ?_
        exact kri (wo := wo_M_close k h0 pB pP pO pS pK th sz op rw bg lo cd wd rm rg rr pl lm nx av sp le la B L y) hx hb hr hlk hP hD hS (th1, 0, lo1, cd1, rm1, L1) (B1, sz1) (by have hB : mcb rw bg lo cd wd rm L y = (lo1, cd1, rm1, L1) := (by rw [mcb, if_pos hrw.1, if_neg hrw.2, hF, mcw]); have hT : mcD L1 bg = L1 := (by rw [mcD, if_pos hq4]); have hRf : row_ok 65536 _ sz1 L1 := (by exact hM1); exact ⟨hth.1, fun _ => (by rw [hB]; exact ⟨by rw [hRf.1], rfl, rfl, rfl, rfl, hT.symm⟩), fun h => absurd hth.2 h⟩) (by unfold ex_M_close; exact hM1) [0, 1] rfl (by decide) (by omega) (by omega) d_Mdl_close_185
      · have hq5 : ¬ nI L1.length ≤ bg := by rw [← hM1.1]; exact mhl_ne c3
        have hq5n := mhl_ne c3
        refine lv_aload_n hx hb d_Mdl_close_144 rfl (lv_at hl 1 rfl) ?_
        refine va_get (D := D) (ci := 9) (v := .ref pB) (C := R_Mdl) (T := T_Mdl) (N := 23) hx hb hts inw_Mdl hown hK hP 0 rfl rfl 4 (by decide) (hts (.fieldLink R_Mdl 17 "LikelyBitsModel" "bytes" "[I") mw_333) (fun _ h9 => h9) rfl d_Mdl_close_145 ?_
        refine lv_aload_n hx hb d_Mdl_close_148 rfl (lv_at hl 1 rfl) ?_
        refine va_get (D := D) (ci := 9) (v := .int sz1) (C := R_Mdl) (T := T_Mdl) (N := 23) hx hb hts inw_Mdl hown hK hP 0 rfl rfl 3 (by decide) (hts (.fieldLink R_Mdl 30 "LikelyBitsModel" "size" "I") mw_324) (fun _ h9 => h9) rfl d_Mdl_close_149 ?_
        refine lv_iconst (v := 1) hx hb d_Mdl_close_152 (by decide) ?_
        refine lv_isub hx hb d_Mdl_close_153 ?_
        refine va_iald hx hb hK hP 1 0 rfl rfl (m_lin hM1 hbg (mhl_ne c3)) d_Mdl_close_154 ?_
        refine lv_sipush (v := 255) hx hb d_Mdl_close_155 (by decide) ?_
        refine lv_icmp_ne (tgt := 171) hx hb d_Mdl_close_158 (by decide) (fun c6 => ?_) (fun c6 => ?_)
        · have hq7 : ¬ mlast L1 = 255 := fun q => c6 ((m_lv hM1 hbg (mhl_ne c3)).trans q)
          refine lv_aload_n hx hb d_Mdl_close_171 rfl (lv_at hl 1 rfl) ?_
          refine lv_iconst (v := 0) hx hb d_Mdl_close_172 (by decide) ?_
          refine va_put (D := D) (ci := 9) (v := .int 0) (ty := .boolean) (C := R_Mdl) (T := T_Mdl) (N := 23) hx hb hts inw_Mdl ty_Mdl tyok_Mdl nm_Mdl hown hK hP hD hS 0 rfl rfl 7 (by decide) (hts (.fieldLink R_Mdl 33 "LikelyBitsModel" "open" "Z") mw_325) (fun _ h9 => h9) rfl (by decide +kernel) rfl rfl (Nat.le_of_ble_eq_true rfl) d_Mdl_close_173 (fun H locs hP hD hS => ?_)
          have hP : va_P D vwCl [(h0, .inr (9, [.ref pP, .ref pO, .int th1, .int sz1, .ref pB, .ref pS, .ref pK, .int 0, .int rw, .int bg, .int lo1, .int cd1, .int wd, .int rm1, .int rg, .int rr, .int pl, .int lm, .int nx, .long av, .int sp, .int le, .int la])), (pB, .inl (k.1, 65536, .inl B1))] H := hP
          have hD : va_D A [(h0, .inr (9, [.ref pP, .ref pO, .int th1, .int sz1, .ref pB, .ref pS, .ref pK, .int 0, .int rw, .int bg, .int lo1, .int cd1, .int wd, .int rm1, .int rg, .int rr, .int pl, .int lm, .int nx, .long av, .int sp, .int le, .int la])), (pB, .inl (k.1, 65536, .inl B1))] := hD
          refine lv_aload_n hx hb d_Mdl_close_176 rfl (lv_at hl 1 rfl) ?_
          refine va_get (D := D) (ci := 9) (v := .int sz1) (C := R_Mdl) (T := T_Mdl) (N := 23) hx hb hts inw_Mdl hown hK hP 0 rfl rfl 3 (by decide) (hts (.fieldLink R_Mdl 30 "LikelyBitsModel" "size" "I") mw_324) (fun _ h9 => h9) rfl d_Mdl_close_177 ?_
          refine lv_aload_n hx hb d_Mdl_close_180 rfl (lv_at hl 1 rfl) ?_
          refine va_get (D := D) (ci := 9) (v := .int bg) (C := R_Mdl) (T := T_Mdl) (N := 23) hx hb hts inw_Mdl hown hK hP 0 rfl rfl 9 (by decide) (hts (.fieldLink R_Mdl 53 "LikelyBitsModel" "begin" "I") mw_327) (fun _ h9 => h9) rfl d_Mdl_close_181 ?_
          refine lv_isub hx hb d_Mdl_close_184 ?_
          exact kri (wo := wo_M_close k h0 pB pP pO pS pK th sz op rw bg lo cd wd rm rg rr pl lm nx av sp le la B L y) hx hb hr hlk hP hD hS (th1, 0, lo1, cd1, rm1, L1) (B1, sz1) (by have hB : mcb rw bg lo cd wd rm L y = (lo1, cd1, rm1, L1) := (by rw [mcb, if_pos hrw.1, if_neg hrw.2, hF, mcw]); have hT : mcD L1 bg = L1 := (by rw [mcD, if_neg hq5, if_neg hq7]); have hRf : row_ok 65536 _ sz1 L1 := (by exact hM1); exact ⟨hth.1, fun _ => (by rw [hB]; exact ⟨by rw [hRf.1], rfl, rfl, rfl, rfl, hT.symm⟩), fun h => absurd hth.2 h⟩) (by unfold ex_M_close; exact hM1) [0, 1] rfl (by decide) (by omega) (by omega) d_Mdl_close_185
        · have hq8 : mlast L1 = 255 := (m_lv hM1 hbg (mhl_ne c3)).symm.trans c6
          refine lv_aload_n hx hb d_Mdl_close_161 rfl (lv_at hl 1 rfl) ?_
          refine lv_dup hx hb d_Mdl_close_162 rfl ?_
          refine va_get (D := D) (ci := 9) (v := .int sz1) (C := R_Mdl) (T := T_Mdl) (N := 23) hx hb hts inw_Mdl hown hK hP 0 rfl rfl 3 (by decide) (hts (.fieldLink R_Mdl 30 "LikelyBitsModel" "size" "I") mw_324) (fun _ h9 => h9) rfl d_Mdl_close_163 ?_
          refine lv_iconst (v := 1) hx hb d_Mdl_close_166 (by decide) ?_
          refine lv_isub hx hb d_Mdl_close_167 ?_
          refine lv_topi (fun x9 ex9 => ?_)
          refine va_put (D := D) (ci := 9) (v := .int x9) (ty := .int) (C := R_Mdl) (T := T_Mdl) (N := 23) hx hb hts inw_Mdl ty_Mdl tyok_Mdl nm_Mdl hown hK hP hD hS 0 rfl rfl 3 (by decide) (hts (.fieldLink R_Mdl 30 "LikelyBitsModel" "size" "I") mw_324) (fun _ h9 => h9) rfl (by decide +kernel) rfl rfl (Nat.le_of_ble_eq_true rfl) d_Mdl_close_168 (fun H locs hP hD hS => ?_)
          have hP : va_P D vwCl [(h0, .inr (9, [.ref pP, .ref pO, .int th1, .int x9, .ref pB, .ref pS, .ref pK, .int op, .int rw, .int bg, .int lo1, .int cd1, .int wd, .int rm1, .int rg, .int rr, .int pl, .int lm, .int nx, .long av, .int sp, .int le, .int la])), (pB, .inl (k.1, 65536, .inl B1))] H := hP
          have hD : va_D A [(h0, .inr (9, [.ref pP, .ref pO, .int th1, .int x9, .ref pB, .ref pS, .ref pK, .int op, .int rw, .int bg, .int lo1, .int cd1, .int wd, .int rm1, .int rg, .int rr, .int pl, .int lm, .int nx, .long av, .int sp, .int le, .int la])), (pB, .inl (k.1, 65536, .inl B1))] := hD
          refine lv_aload_n hx hb d_Mdl_close_171 rfl (lv_at hl 1 rfl) ?_
          refine lv_iconst (v := 0) hx hb d_Mdl_close_172 (by decide) ?_
          refine va_put (D := D) (ci := 9) (v := .int 0) (ty := .boolean) (C := R_Mdl) (T := T_Mdl) (N := 23) hx hb hts inw_Mdl ty_Mdl tyok_Mdl nm_Mdl hown hK hP hD hS 0 rfl rfl 7 (by decide) (hts (.fieldLink R_Mdl 33 "LikelyBitsModel" "open" "Z") mw_325) (fun _ h9 => h9) rfl (by decide +kernel) rfl rfl (Nat.le_of_ble_eq_true rfl) d_Mdl_close_173 (fun H locs hP hD hS => ?_)
          have hP : va_P D vwCl [(h0, .inr (9, [.ref pP, .ref pO, .int th1, .int x9, .ref pB, .ref pS, .ref pK, .int 0, .int rw, .int bg, .int lo1, .int cd1, .int wd, .int rm1, .int rg, .int rr, .int pl, .int lm, .int nx, .long av, .int sp, .int le, .int la])), (pB, .inl (k.1, 65536, .inl B1))] H := hP
          have hD : va_D A [(h0, .inr (9, [.ref pP, .ref pO, .int th1, .int x9, .ref pB, .ref pS, .ref pK, .int 0, .int rw, .int bg, .int lo1, .int cd1, .int wd, .int rm1, .int rg, .int rr, .int pl, .int lm, .int nx, .long av, .int sp, .int le, .int la])), (pB, .inl (k.1, 65536, .inl B1))] := hD
          refine lv_aload_n hx hb d_Mdl_close_176 rfl (lv_at hl 1 rfl) ?_
          refine va_get (D := D) (ci := 9) (v := .int x9) (C := R_Mdl) (T := T_Mdl) (N := 23) hx hb hts inw_Mdl hown hK hP 0 rfl rfl 3 (by decide) (hts (.fieldLink R_Mdl 30 "LikelyBitsModel" "size" "I") mw_324) (fun _ h9 => h9) rfl d_Mdl_close_177 ?_
          refine lv_aload_n hx hb d_Mdl_close_180 rfl (lv_at hl 1 rfl) ?_
          refine va_get (D := D) (ci := 9) (v := .int bg) (C := R_Mdl) (T := T_Mdl) (N := 23) hx hb hts inw_Mdl hown hK hP 0 rfl rfl 9 (by decide) (hts (.fieldLink R_Mdl 53 "LikelyBitsModel" "begin" "I") mw_327) (fun _ h9 => h9) rfl d_Mdl_close_181 ?_
          refine lv_isub hx hb d_Mdl_close_184 ?_
          exact kri (wo := wo_M_close k h0 pB pP pO pS pK th sz op rw bg lo cd wd rm rg rr pl lm nx av sp le la B L y) hx hb hr hlk hP hD hS (th1, 0, lo1, cd1, rm1, L1.dropLast) (B1, x9) (by have hB : mcb rw bg lo cd wd rm L y = (lo1, cd1, rm1, L1) := (by rw [mcb, if_pos hrw.1, if_neg hrw.2, hF, mcw]); have hT : mcD L1 bg = L1.dropLast := (by rw [mcD, if_neg hq5, if_pos hq8]); have hRf : row_ok 65536 _ x9 L1.dropLast := (by rw [ex9]; exact (m_drop hM1 hbg (mhl_ne c3))); exact ⟨hth.1, fun _ => (by rw [hB]; exact ⟨by rw [hRf.1], rfl, rfl, rfl, rfl, hT.symm⟩), fun h => absurd hth.2 h⟩) (by unfold ex_M_close; rw [ex9]; exact (m_drop hM1 hbg (mhl_ne c3))) [0, 1] rfl (by decide) (by omega) (by omega) d_Mdl_close_185
    · exact absurd (mcn_0 hn1) c1
  | succ t ih =>
    intro n1 th1 lo1 cd1 rm1 B1 sz1 L1 hM1 hbg hth hrw hcd1 hF hn1 hl1 H locs cells slots hrm hP hD hS ls hl
    refine lv_iload_n hx hb d_Mdl_close_119 rfl (lv_at hl 0 rfl) ?_
    refine lv_if_le (tgt := 137) hx hb d_Mdl_close_120 (by decide) (fun c10 => ?_) (fun c10 => ?_)
    · refine lv_aload_n hx hb d_Mdl_close_137 rfl (lv_at hl 1 rfl) ?_
      refine kqi (va_runV (As := []) (rest := []) ⟨hx, hb, hml, hown, hts⟩ (c_M_hasLast l hl9 D k h0 pP pO pB pS pK th1 sz1 op rw bg lo1 cd1 wd rm1 rg rr pl lm nx av sp le la ) (cwV 0 hts (gV mw_328 mw_329 mw_330 mw_331 mw_332) rfl rfl rfl (by decide +kernel) ⟨(Nat.le_of_ble_eq_true rfl), (Nat.le_of_ble_eq_true rfl)⟩) (kRecv (q := (R_Mdl, T_Mdl, 23)) (q0 := 0) (ci := 9) hK hP rfl rfl (kPreR (wc := [(h0, .inr (9, [.ref pP, .ref pO, .int th1, .int sz1, .ref pB, .ref pS, .ref pK, .int op, .int rw, .int bg, .int lo1, .int cd1, .int wd, .int rm1, .int rg, .int rr, .int pl, .int lm, .int nx, .long av, .int sp, .int le, .int la]))]) hE hK hP hS [0] rfl)) rfl rfl hl.1 rfl (lv_room (Nat.le_of_ble_eq_true rfl)) d_Mdl_close_138 ⟨(by first | omega | (dsimp only; omega)), (by first | omega | (dsimp only; omega))⟩) hP hS (fun r11 H locs hw hP hS => ?_)
      replace hw := hw.symm
      subst hw
      refine lv_if_eq (tgt := 171) hx hb d_Mdl_close_141 (by decide) (fun c12 => ?_) (fun c12 => ?_)
      · have hq13 : nI L1.length ≤ bg := by rw [← hM1.1]; exact mhl_eq c12
        refine lv_aload_n hx hb d_Mdl_close_171 rfl (lv_at hl 1 rfl) ?_
        refine lv_iconst (v := 0) hx hb d_Mdl_close_172 (by decide) ?_
        refine va_put (D := D) (ci := 9) (v := .int 0) (ty := .boolean) (C := R_Mdl) (T := T_Mdl) (N := 23) hx hb hts inw_Mdl ty_Mdl tyok_Mdl nm_Mdl hown hK hP hD hS 0 rfl rfl 7 (by decide) (hts (.fieldLink R_Mdl 33 "LikelyBitsModel" "open" "Z") mw_325) (fun _ h9 => h9) rfl (by decide +kernel) rfl rfl (Nat.le_of_ble_eq_true rfl) d_Mdl_close_173 (fun H locs hP hD hS => ?_)
        have hP : va_P D vwCl [(h0, .inr (9, [.ref pP, .ref pO, .int th1, .int sz1, .ref pB, .ref pS, .ref pK, .int 0, .int rw, .int bg, .int lo1, .int cd1, .int wd, .int rm1, .int rg, .int rr, .int pl, .int lm, .int nx, .long av, .int sp, .int le, .int la])), (pB, .inl (k.1, 65536, .inl B1))] H := hP
        have hD : va_D A [(h0, .inr (9, [.ref pP, .ref pO, .int th1, .int sz1, .ref pB, .ref pS, .ref pK, .int 0, .int rw, .int bg, .int lo1, .int cd1, .int wd, .int rm1, .int rg, .int rr, .int pl, .int lm, .int nx, .long av, .int sp, .int le, .int la])), (pB, .inl (k.1, 65536, .inl B1))] := hD
        refine lv_aload_n hx hb d_Mdl_close_176 rfl (lv_at hl 1 rfl) ?_
        refine va_get (D := D) (ci := 9) (v := .int sz1) (C := R_Mdl) (T := T_Mdl) (N := 23) hx hb hts inw_Mdl hown hK hP 0 rfl rfl 3 (by decide) (hts (.fieldLink R_Mdl 30 "LikelyBitsModel" "size" "I") mw_324) (fun _ h9 => h9) rfl d_Mdl_close_177 ?_
        refine lv_aload_n hx hb d_Mdl_close_180 rfl (lv_at hl 1 rfl) ?_
        refine va_get (D := D) (ci := 9) (v := .int bg) (C := R_Mdl) (T := T_Mdl) (N := 23) hx hb hts inw_Mdl hown hK hP 0 rfl rfl 9 (by decide) (hts (.fieldLink R_Mdl 53 "LikelyBitsModel" "begin" "I") mw_327) (fun _ h9 => h9) rfl d_Mdl_close_181 ?_
        refine lv_isub hx hb d_Mdl_close_184 ?_
        exact kri (wo := wo_M_close k h0 pB pP pO pS pK th sz op rw bg lo cd wd rm rg rr pl lm nx av sp le la B L y) hx hb hr hlk hP hD hS (th1, 0, lo1, cd1, rm1, L1) (B1, sz1) (by have hB : mcb rw bg lo cd wd rm L y = (lo1, cd1, rm1, L1) := (by rw [mcb, if_pos hrw.1, if_neg hrw.2, hF, mcw, if_pos c10]); have hT : mcD L1 bg = L1 := (by rw [mcD, if_pos hq13]); have hRf : row_ok 65536 _ sz1 L1 := (by exact hM1); exact ⟨hth.1, fun _ => (by rw [hB]; exact ⟨by rw [hRf.1], rfl, rfl, rfl, rfl, hT.symm⟩), fun h => absurd hth.2 h⟩) (by unfold ex_M_close; exact hM1) [0, 1] rfl (by decide) (by omega) (by omega) d_Mdl_close_185
      · have hq14 : ¬ nI L1.length ≤ bg := by rw [← hM1.1]; exact mhl_ne c12
        have hq14n := mhl_ne c12
        refine lv_aload_n hx hb d_Mdl_close_144 rfl (lv_at hl 1 rfl) ?_
        refine va_get (D := D) (ci := 9) (v := .ref pB) (C := R_Mdl) (T := T_Mdl) (N := 23) hx hb hts inw_Mdl hown hK hP 0 rfl rfl 4 (by decide) (hts (.fieldLink R_Mdl 17 "LikelyBitsModel" "bytes" "[I") mw_333) (fun _ h9 => h9) rfl d_Mdl_close_145 ?_
        refine lv_aload_n hx hb d_Mdl_close_148 rfl (lv_at hl 1 rfl) ?_
        refine va_get (D := D) (ci := 9) (v := .int sz1) (C := R_Mdl) (T := T_Mdl) (N := 23) hx hb hts inw_Mdl hown hK hP 0 rfl rfl 3 (by decide) (hts (.fieldLink R_Mdl 30 "LikelyBitsModel" "size" "I") mw_324) (fun _ h9 => h9) rfl d_Mdl_close_149 ?_
        refine lv_iconst (v := 1) hx hb d_Mdl_close_152 (by decide) ?_
        refine lv_isub hx hb d_Mdl_close_153 ?_
        refine va_iald hx hb hK hP 1 0 rfl rfl (m_lin hM1 hbg (mhl_ne c12)) d_Mdl_close_154 ?_
        refine lv_sipush (v := 255) hx hb d_Mdl_close_155 (by decide) ?_
        refine lv_icmp_ne (tgt := 171) hx hb d_Mdl_close_158 (by decide) (fun c15 => ?_) (fun c15 => ?_)
        · have hq16 : ¬ mlast L1 = 255 := fun q => c15 ((m_lv hM1 hbg (mhl_ne c12)).trans q)
          refine lv_aload_n hx hb d_Mdl_close_171 rfl (lv_at hl 1 rfl) ?_
          refine lv_iconst (v := 0) hx hb d_Mdl_close_172 (by decide) ?_
          refine va_put (D := D) (ci := 9) (v := .int 0) (ty := .boolean) (C := R_Mdl) (T := T_Mdl) (N := 23) hx hb hts inw_Mdl ty_Mdl tyok_Mdl nm_Mdl hown hK hP hD hS 0 rfl rfl 7 (by decide) (hts (.fieldLink R_Mdl 33 "LikelyBitsModel" "open" "Z") mw_325) (fun _ h9 => h9) rfl (by decide +kernel) rfl rfl (Nat.le_of_ble_eq_true rfl) d_Mdl_close_173 (fun H locs hP hD hS => ?_)
          have hP : va_P D vwCl [(h0, .inr (9, [.ref pP, .ref pO, .int th1, .int sz1, .ref pB, .ref pS, .ref pK, .int 0, .int rw, .int bg, .int lo1, .int cd1, .int wd, .int rm1, .int rg, .int rr, .int pl, .int lm, .int nx, .long av, .int sp, .int le, .int la])), (pB, .inl (k.1, 65536, .inl B1))] H := hP
          have hD : va_D A [(h0, .inr (9, [.ref pP, .ref pO, .int th1, .int sz1, .ref pB, .ref pS, .ref pK, .int 0, .int rw, .int bg, .int lo1, .int cd1, .int wd, .int rm1, .int rg, .int rr, .int pl, .int lm, .int nx, .long av, .int sp, .int le, .int la])), (pB, .inl (k.1, 65536, .inl B1))] := hD
          refine lv_aload_n hx hb d_Mdl_close_176 rfl (lv_at hl 1 rfl) ?_
          refine va_get (D := D) (ci := 9) (v := .int sz1) (C := R_Mdl) (T := T_Mdl) (N := 23) hx hb hts inw_Mdl hown hK hP 0 rfl rfl 3 (by decide) (hts (.fieldLink R_Mdl 30 "LikelyBitsModel" "size" "I") mw_324) (fun _ h9 => h9) rfl d_Mdl_close_177 ?_
          refine lv_aload_n hx hb d_Mdl_close_180 rfl (lv_at hl 1 rfl) ?_
          refine va_get (D := D) (ci := 9) (v := .int bg) (C := R_Mdl) (T := T_Mdl) (N := 23) hx hb hts inw_Mdl hown hK hP 0 rfl rfl 9 (by decide) (hts (.fieldLink R_Mdl 53 "LikelyBitsModel" "begin" "I") mw_327) (fun _ h9 => h9) rfl d_Mdl_close_181 ?_
          refine lv_isub hx hb d_Mdl_close_184 ?_
          exact kri (wo := wo_M_close k h0 pB pP pO pS pK th sz op rw bg lo cd wd rm rg rr pl lm nx av sp le la B L y) hx hb hr hlk hP hD hS (th1, 0, lo1, cd1, rm1, L1) (B1, sz1) (by have hB : mcb rw bg lo cd wd rm L y = (lo1, cd1, rm1, L1) := (by rw [mcb, if_pos hrw.1, if_neg hrw.2, hF, mcw, if_pos c10]); have hT : mcD L1 bg = L1 := (by rw [mcD, if_neg hq14, if_neg hq16]); have hRf : row_ok 65536 _ sz1 L1 := (by exact hM1); exact ⟨hth.1, fun _ => (by rw [hB]; exact ⟨by rw [hRf.1], rfl, rfl, rfl, rfl, hT.symm⟩), fun h => absurd hth.2 h⟩) (by unfold ex_M_close; exact hM1) [0, 1] rfl (by decide) (by omega) (by omega) d_Mdl_close_185
        · have hq17 : mlast L1 = 255 := (m_lv hM1 hbg (mhl_ne c12)).symm.trans c15
          refine lv_aload_n hx hb d_Mdl_close_161 rfl (lv_at hl 1 rfl) ?_
          refine lv_dup hx hb d_Mdl_close_162 rfl ?_
          refine va_get (D := D) (ci := 9) (v := .int sz1) (C := R_Mdl) (T := T_Mdl) (N := 23) hx hb hts inw_Mdl hown hK hP 0 rfl rfl 3 (by decide) (hts (.fieldLink R_Mdl 30 "LikelyBitsModel" "size" "I") mw_324) (fun _ h9 => h9) rfl d_Mdl_close_163 ?_
          refine lv_iconst (v := 1) hx hb d_Mdl_close_166 (by decide) ?_
          refine lv_isub hx hb d_Mdl_close_167 ?_
          refine lv_topi (fun x18 ex18 => ?_)
          refine va_put (D := D) (ci := 9) (v := .int x18) (ty := .int) (C := R_Mdl) (T := T_Mdl) (N := 23) hx hb hts inw_Mdl ty_Mdl tyok_Mdl nm_Mdl hown hK hP hD hS 0 rfl rfl 3 (by decide) (hts (.fieldLink R_Mdl 30 "LikelyBitsModel" "size" "I") mw_324) (fun _ h9 => h9) rfl (by decide +kernel) rfl rfl (Nat.le_of_ble_eq_true rfl) d_Mdl_close_168 (fun H locs hP hD hS => ?_)
          have hP : va_P D vwCl [(h0, .inr (9, [.ref pP, .ref pO, .int th1, .int x18, .ref pB, .ref pS, .ref pK, .int op, .int rw, .int bg, .int lo1, .int cd1, .int wd, .int rm1, .int rg, .int rr, .int pl, .int lm, .int nx, .long av, .int sp, .int le, .int la])), (pB, .inl (k.1, 65536, .inl B1))] H := hP
          have hD : va_D A [(h0, .inr (9, [.ref pP, .ref pO, .int th1, .int x18, .ref pB, .ref pS, .ref pK, .int op, .int rw, .int bg, .int lo1, .int cd1, .int wd, .int rm1, .int rg, .int rr, .int pl, .int lm, .int nx, .long av, .int sp, .int le, .int la])), (pB, .inl (k.1, 65536, .inl B1))] := hD
          refine lv_aload_n hx hb d_Mdl_close_171 rfl (lv_at hl 1 rfl) ?_
          refine lv_iconst (v := 0) hx hb d_Mdl_close_172 (by decide) ?_
          refine va_put (D := D) (ci := 9) (v := .int 0) (ty := .boolean) (C := R_Mdl) (T := T_Mdl) (N := 23) hx hb hts inw_Mdl ty_Mdl tyok_Mdl nm_Mdl hown hK hP hD hS 0 rfl rfl 7 (by decide) (hts (.fieldLink R_Mdl 33 "LikelyBitsModel" "open" "Z") mw_325) (fun _ h9 => h9) rfl (by decide +kernel) rfl rfl (Nat.le_of_ble_eq_true rfl) d_Mdl_close_173 (fun H locs hP hD hS => ?_)
          have hP : va_P D vwCl [(h0, .inr (9, [.ref pP, .ref pO, .int th1, .int x18, .ref pB, .ref pS, .ref pK, .int 0, .int rw, .int bg, .int lo1, .int cd1, .int wd, .int rm1, .int rg, .int rr, .int pl, .int lm, .int nx, .long av, .int sp, .int le, .int la])), (pB, .inl (k.1, 65536, .inl B1))] H := hP
          have hD : va_D A [(h0, .inr (9, [.ref pP, .ref pO, .int th1, .int x18, .ref pB, .ref pS, .ref pK, .int 0, .int rw, .int bg, .int lo1, .int cd1, .int wd, .int rm1, .int rg, .int rr, .int pl, .int lm, .int nx, .long av, .int sp, .int le, .int la])), (pB, .inl (k.1, 65536, .inl B1))] := hD
          refine lv_aload_n hx hb d_Mdl_close_176 rfl (lv_at hl 1 rfl) ?_
          refine va_get (D := D) (ci := 9) (v := .int x18) (C := R_Mdl) (T := T_Mdl) (N := 23) hx hb hts inw_Mdl hown hK hP 0 rfl rfl 3 (by decide) (hts (.fieldLink R_Mdl 30 "LikelyBitsModel" "size" "I") mw_324) (fun _ h9 => h9) rfl d_Mdl_close_177 ?_
          refine lv_aload_n hx hb d_Mdl_close_180 rfl (lv_at hl 1 rfl) ?_
          refine va_get (D := D) (ci := 9) (v := .int bg) (C := R_Mdl) (T := T_Mdl) (N := 23) hx hb hts inw_Mdl hown hK hP 0 rfl rfl 9 (by decide) (hts (.fieldLink R_Mdl 53 "LikelyBitsModel" "begin" "I") mw_327) (fun _ h9 => h9) rfl d_Mdl_close_181 ?_
          refine lv_isub hx hb d_Mdl_close_184 ?_
          exact kri (wo := wo_M_close k h0 pB pP pO pS pK th sz op rw bg lo cd wd rm rg rr pl lm nx av sp le la B L y) hx hb hr hlk hP hD hS (th1, 0, lo1, cd1, rm1, L1.dropLast) (B1, x18) (by have hB : mcb rw bg lo cd wd rm L y = (lo1, cd1, rm1, L1) := (by rw [mcb, if_pos hrw.1, if_neg hrw.2, hF, mcw, if_pos c10]); have hT : mcD L1 bg = L1.dropLast := (by rw [mcD, if_neg hq14, if_pos hq17]); have hRf : row_ok 65536 _ x18 L1.dropLast := (by rw [ex18]; exact (m_drop hM1 hbg (mhl_ne c12))); exact ⟨hth.1, fun _ => (by rw [hB]; exact ⟨by rw [hRf.1], rfl, rfl, rfl, rfl, hT.symm⟩), fun h => absurd hth.2 h⟩) (by unfold ex_M_close; rw [ex18]; exact (m_drop hM1 hbg (mhl_ne c12))) [0, 1] rfl (by decide) (by omega) (by omega) d_Mdl_close_185
    · refine lv_aload_n hx hb d_Mdl_close_123 rfl (lv_at hl 1 rfl) ?_
      have hlt9 : L1.length < 65536 := by omega
      refine kcv (wc := [(h0, .inr (9, [.ref pP, .ref pO, .int th1, .int sz1, .ref pB, .ref pS, .ref pK, .int op, .int rw, .int bg, .int lo1, .int cd1, .int wd, .int rm1, .int rg, .int rr, .int pl, .int lm, .int nx, .long av, .int sp, .int le, .int la])), (pB, .inl (k.1, 65536, .inl B1))]) (wr := []) (va_runV (As := []) (rest := []) ⟨hx, hb, hml, hown, hts⟩ (c_M_push l hl9 D k h0 pB H.size pP pO pS pK th1 sz1 op rw bg lo1 cd1 wd rm1 rg rr pl lm nx av sp le la B1 L1 (by assumption) (by assumption) (by assumption) (by assumption)) (cwV 0 hts (gV mw_420 mw_421 mw_422 mw_331 mw_423) rfl rfl rfl (by decide +kernel) ⟨(Nat.le_of_ble_eq_true rfl), (Nat.le_of_ble_eq_true rfl)⟩) (kRecv (q := (R_Mdl, T_Mdl, 23)) (q0 := 0) (ci := 9) hK hP rfl rfl (kPre (wc := [(h0, .inr (9, [.ref pP, .ref pO, .int th1, .int sz1, .ref pB, .ref pS, .ref pK, .int op, .int rw, .int bg, .int lo1, .int cd1, .int wd, .int rm1, .int rg, .int rr, .int pl, .int lm, .int nx, .long av, .int sp, .int le, .int la])), (pB, .inl (k.1, 65536, .inl B1))]) hE hK hP hD hS hA [0, 1] rfl (by decide))) rfl rfl hl.1 rfl (lv_room (Nat.le_of_ble_eq_true rfl)) d_Mdl_close_124 ⟨(by first | omega | (dsimp only; omega)), (by first | omega | (dsimp only; omega))⟩) hP hD hS hA [0, 1] [] rfl rfl (by decide) (by decide) (fun zz uu H locs hw25 hz26 hP hD hS => ?_)
      obtain ⟨B_22, sz_23⟩ := zz
      obtain ⟨lo_19, rm_20, L_21⟩ := uu
      have hw25 : lo_19 = (mbo bg (lo1 <<< (rm1 &&& 31)) cd1 L1).1 ∧ rm_20 = (mbo bg (lo1 <<< (rm1 &&& 31)) cd1 L1).2.1 ∧ L_21 = (mbo bg (lo1 <<< (rm1 &&& 31)) cd1 L1).2.2 := hw25
      have hz26 : row_ok 65536 B_22 sz_23 L_21 := hz26
      have hP : va_P D vwCl [(h0, .inr (9, [.ref pP, .ref pO, .int th1, .int sz_23, .ref pB, .ref pS, .ref pK, .int op, .int rw, .int bg, .int lo_19, .int 0, .int wd, .int rm_20, .int rg, .int rr, .int pl, .int lm, .int nx, .long av, .int sp, .int le, .int la])), (pB, .inl (k.1, 65536, .inl B_22))] H := hP
      have hD : va_D A [(h0, .inr (9, [.ref pP, .ref pO, .int th1, .int sz_23, .ref pB, .ref pS, .ref pK, .int op, .int rw, .int bg, .int lo_19, .int 0, .int wd, .int rm_20, .int rg, .int rr, .int pl, .int lm, .int nx, .long av, .int sp, .int le, .int la])), (pB, .inl (k.1, 65536, .inl B_22))] := hD
      refine lv_iload_n hx hb d_Mdl_close_127 rfl (lv_at hl 0 rfl) ?_
      refine lv_aload_n hx hb d_Mdl_close_128 rfl (lv_at hl 1 rfl) ?_
      refine va_get (D := D) (ci := 9) (v := .int rm_20) (C := R_Mdl) (T := T_Mdl) (N := 23) hx hb hts inw_Mdl hown hK hP 0 rfl rfl 13 (by decide) (hts (.fieldLink R_Mdl 63 "LikelyBitsModel" "room" "I") mw_335) (fun _ h9 => h9) rfl d_Mdl_close_129 ?_
      refine lv_isub hx hb d_Mdl_close_132 ?_
      refine lv_topi (fun x27 ex27 => ?_)
      refine lv_istore_n (lv' := [(2, .int x27), (0, .ref h0)]) hx hb d_Mdl_close_133 rfl hl (by decide) rfl (fun ls hl => ?_)
      refine lv_goto (tgt := 119) hx hb d_Mdl_close_134 (by decide) ?_
      exact ih x27 th1 lo_19 0 rm_20 B_22 sz_23 L_21 (by assumption) hbg hth hrw (Or.inl rfl) (by have p9 := hw25; rw [hF, mcw, if_neg c10, mpu, ← p9.1, ← p9.2.1, ← p9.2.2, ex27]) (by have p8 := mcn_s (bg := bg) (lo := lo1) (cd := cd1) (rm := rm1) (L := L1) hn1 c10; rw [mpu, ← hw25.2.1] at p8; rw [ex27]; exact p8) (by rw [hw25.2.2, mbo_len]; omega) H _ _ _ (by exact ⟨by omega, by omega⟩) (ka_P hP (is := [0, 1]) rfl) (hD.sub [0, 1] (by decide) rfl) hS ls (lv_sub hl [0, 1] rfl)
set_option maxHeartbeats 1000000 in
set_option maxRecDepth 100000 in
theorem c_M_close (l : Launch) (hl9 : l.stackTraces = false) (D : va_G) (k : gK) (h0 pB : Nat) (zsz : Nat) (pP : Nat) (pO : Nat) (pS : Nat) (pK : Nat) (th : Int32) (sz : Int32) (op : Int32) (rw : Int32) (bg : Int32) (lo : Int32) (cd : Int32) (wd : Int32) (rm : Int32) (rg : Int32) (rr : Int32) (pl : Int32) (lm : Int32) (nx : Int32) (av : Int64) (sp : Int32) (le : Int32) (la : Int32) (B : Nat → Int32) (L : List Int32) (y : Int32) (hM : row_ok 65536 B sz L) (hbg : ¬ bg < 0) (hv : op = 0 ∨ mwu rw bg cd rm L) (hln : op = 0 ∨ L.length + 2 ≤ 65536) : Met l y_Mdl_close (.code y_Mdl_close b_Mdl_close 4 (some .int) :: AW) ({ frames := 3, cells := 0, slots := 0, locals := 61 }) (va_Pc [.ref h0, .int y] (GG D k [(h0, .inr (9, [.ref pP, .ref pO, .int th, .int sz, .ref pB, .ref pS, .ref pK, .int op, .int rw, .int bg, .int lo, .int cd, .int wd, .int rm, .int rg, .int rr, .int pl, .int lm, .int nx, .long av, .int sp, .int le, .int la])), (pB, .inl (k.1, 65536, .inl B))] zsz)) (qc_M_close D k h0 pB pP pO pS pK th sz op rw bg lo cd wd rm rg rr pl lm nx av sp le la B L y (va_A [(h0, .inr (9, [.ref pP, .ref pO, .int th, .int sz, .ref pB, .ref pS, .ref pK, .int op, .int rw, .int bg, .int lo, .int cd, .int wd, .int rm, .int rg, .int rr, .int pl, .int lm, .int nx, .long av, .int sp, .int le, .int la])), (pB, .inl (k.1, 65536, .inl B))] zsz)) 0 0 (va_A [(h0, .inr (9, [.ref pP, .ref pO, .int th, .int sz, .ref pB, .ref pS, .ref pK, .int op, .int rw, .int bg, .int lo, .int cd, .int wd, .int rm, .int rg, .int rr, .int pl, .int lm, .int nx, .long av, .int sp, .int le, .int la])), (pB, .inl (k.1, 65536, .inl B))] zsz) := by
  refine kMet (ws := [(h0, .inr (9, [.ref pP, .ref pO, .int th, .int sz, .ref pB, .ref pS, .ref pK, .int op, .int rw, .int bg, .int lo, .int cd, .int wd, .int rm, .int rg, .int rr, .int pl, .int lm, .int nx, .long av, .int sp, .int le, .int la])), (pB, .inl (k.1, 65536, .inl B))]) (Qc := qc_M_close D k h0 pB pP pO pS pK th sz op rw bg lo cd wd rm rg rr pl lm nx av sp le la B L y) (by decide) (Nat.le_of_ble_eq_true rfl) (fun p e s m below meth c ls A H Cc hP hD hA hS hl => ?_)
  have Cc9 := Cc
  obtain ⟨hx, hb, hml, hr, hlk, hown, hts, hK, hE, hin⟩ := Cc
  have hl : lv_has ls 4 [(0, .ref h0), (1, .int y)] := hl
  refine lv_aload_n hx hb d_Mdl_close_0 rfl (lv_at hl 0 rfl) ?_
  refine lv_aload_n hx hb d_Mdl_close_1 rfl (lv_at hl 0 rfl) ?_
  refine va_get (D := D) (ci := 9) (v := .int op) (C := R_Mdl) (T := T_Mdl) (N := 23) hx hb hts inw_Mdl hown hK hP 0 rfl rfl 7 (by decide) (hts (.fieldLink R_Mdl 33 "LikelyBitsModel" "open" "Z") mw_325) (fun _ h9 => h9) rfl d_Mdl_close_2 ?_
  refine lv_if_ne (tgt := 12) hx hb d_Mdl_close_5 (by decide) (fun c1 => ?_) (fun c1 => ?_)
  · refine lv_iconst (v := 0) hx hb d_Mdl_close_12 (by decide) ?_
    refine lv_iload_n hx hb d_Mdl_close_13 rfl (lv_at hl 1 rfl) ?_
    refine lv_iconst (v := 0) hx hb d_Mdl_close_14 (by decide) ?_
    refine lv_iconst (v := 1) hx hb d_Mdl_close_15 (by decide) ?_
    refine kqi (va_runS (As := [.int y, .int 0, .int 1]) (rest := [.int 0, .ref h0]) ⟨hx, hb, hml, hown, hts⟩ (c_M_out l hl9 D k  y 0 1 ) (cwS 3 hts (gS mw_368 mw_369 mw_331 mw_370) rfl rfl rfl (by decide +kernel) ⟨(Nat.le_of_ble_eq_true rfl), (Nat.le_of_ble_eq_true rfl)⟩) (kPreR (wc := []) hE hK hP hS [] rfl) rfl rfl hl.1 rfl (lv_room (Nat.le_of_ble_eq_true rfl)) d_Mdl_close_16 ⟨(Nat.le_of_ble_eq_true rfl), (Nat.le_of_ble_eq_true rfl)⟩) hP hS (fun r2 H locs hw hP hS => ?_)
    replace hw := hw.symm
    subst hw
    refine lv_iconst (v := 0) hx hb d_Mdl_close_19 (by decide) ?_
    refine kci (wc := [(h0, .inr (9, [.ref pP, .ref pO, .int th, .int sz, .ref pB, .ref pS, .ref pK, .int op, .int rw, .int bg, .int lo, .int cd, .int wd, .int rm, .int rg, .int rr, .int pl, .int lm, .int nx, .long av, .int sp, .int le, .int la]))]) (wr := [(pB, .inl (k.1, 65536, .inl B))]) (va_runV (As := [.int 0, .int (mot y 0 1), .int 0]) (rest := []) ⟨hx, hb, hml, hown, hts⟩ (c_M_throwing l hl9 D k h0 H.size pP pO pB pS pK th sz op rw bg lo cd wd rm rg rr pl lm nx av sp le la 0 (mot y 0 1) 0 ) (cwV 3 hts (gV mw_372 mw_373 mw_374 mw_331 mw_375) rfl rfl rfl (by decide +kernel) ⟨(Nat.le_of_ble_eq_true rfl), (Nat.le_of_ble_eq_true rfl)⟩) (kRecv (q := (R_Mdl, T_Mdl, 23)) (q0 := 0) (ci := 9) hK hP rfl rfl (kPre (wc := [(h0, .inr (9, [.ref pP, .ref pO, .int th, .int sz, .ref pB, .ref pS, .ref pK, .int op, .int rw, .int bg, .int lo, .int cd, .int wd, .int rm, .int rg, .int rr, .int pl, .int lm, .int nx, .long av, .int sp, .int le, .int la]))]) hE hK hP hD hS hA [0] rfl (by decide))) rfl rfl hl.1 rfl (lv_room (Nat.le_of_ble_eq_true rfl)) d_Mdl_close_20 ⟨(Nat.le_of_ble_eq_true rfl), (Nat.le_of_ble_eq_true rfl)⟩) hP hD hS hA [0] [1] rfl rfl (by decide) (by decide) (fun r4 zz uu H locs hw5 hz6 hP hD hS => ?_)
    obtain ⟨th_3, rfl⟩ : ∃ y, y = uu := ⟨_, rfl⟩
    have hw5 : r4 = mtb 0 (mot y 0 1) 0 ∧ th_3 = mth 0 (mot y 0 1) 0 := hw5
    have hP : va_P D vwCl [(pB, .inl (k.1, 65536, .inl B)), (h0, .inr (9, [.ref pP, .ref pO, .int th_3, .int sz, .ref pB, .ref pS, .ref pK, .int op, .int rw, .int bg, .int lo, .int cd, .int wd, .int rm, .int rg, .int rr, .int pl, .int lm, .int nx, .long av, .int sp, .int le, .int la]))] H := hP
    have hD : va_D A [(pB, .inl (k.1, 65536, .inl B)), (h0, .inr (9, [.ref pP, .ref pO, .int th_3, .int sz, .ref pB, .ref pS, .ref pK, .int op, .int rw, .int bg, .int lo, .int cd, .int wd, .int rm, .int rg, .int rr, .int pl, .int lm, .int nx, .long av, .int sp, .int le, .int la]))] := hD
    refine lv_if_eq (tgt := 28) hx hb d_Mdl_close_23 (by decide) (fun c7 => ?_) (fun c7 => ?_)
    · have hc9 : mcx op y = mth 0 (mot y 0 1) 0 := by simp [mcx, c1]
      have hq9 := mtb_0 (hw5.1 ▸ c7)
      rw [← hc9] at hq9
      have hv9 := hv.resolve_left c1
      have hln9 := hln.resolve_left c1
      refine lv_aload_n hx hb d_Mdl_close_28 rfl (lv_at hl 0 rfl) ?_
      refine va_get (D := D) (ci := 9) (v := .int rw) (C := R_Mdl) (T := T_Mdl) (N := 23) hx hb hts inw_Mdl hown hK hP 1 rfl rfl 8 (by decide) (hts (.fieldLink R_Mdl 93 "LikelyBitsModel" "raw" "Z") mw_376) (fun _ h9 => h9) rfl d_Mdl_close_29 ?_
      refine lv_if_eq (tgt := 59) hx hb d_Mdl_close_32 (by decide) (fun c8 => ?_) (fun c8 => ?_)
      · refine lv_iload_n hx hb d_Mdl_close_59 rfl (lv_at hl 1 rfl) ?_
        refine lv_if_ne (tgt := 111) hx hb d_Mdl_close_60 (by decide) (fun c9 => ?_) (fun c9 => ?_)
        · refine lv_bipush (v := 12) hx hb d_Mdl_close_111 (by decide) ?_
          refine lv_aload_n hx hb d_Mdl_close_113 rfl (lv_at hl 0 rfl) ?_
          refine va_get (D := D) (ci := 9) (v := .int rm) (C := R_Mdl) (T := T_Mdl) (N := 23) hx hb hts inw_Mdl hown hK hP 1 rfl rfl 13 (by decide) (hts (.fieldLink R_Mdl 63 "LikelyBitsModel" "room" "I") mw_335) (fun _ h9 => h9) rfl d_Mdl_close_114 ?_
          refine lv_isub hx hb d_Mdl_close_117 ?_
          refine lv_topi (fun x10 ex10 => ?_)
          refine lv_istore_n (lv' := [(2, .int x10), (0, .ref h0), (1, .int y)]) hx hb d_Mdl_close_118 rfl hl (by decide) rfl (fun ls hl => ?_)
          exact lp_M_close_119 l hl9 D k h0 pB pP pO pS pK th sz op rw bg lo cd wd rm rg rr pl lm nx av sp le la B L y Cc9 hA 2 x10 th_3 lo cd rm B sz L hM hbg (by rw [hc9] at hq9 ⊢; exact ⟨hw5.2, hq9⟩) ⟨c8, c9⟩ (by rw [hM.1]; exact (hv9.1 c8).1) (by rw [ex10]) (by rw [ex10]; exact mcn_i (hv9.1 c8).2) hln9 H _ _ _ ⟨rfl, rfl⟩ (ka_P hP (is := [1, 0]) rfl) (hD.sub [1, 0] (by decide) rfl) hS ls (lv_sub hl [0, 1] rfl)
        · refine lv_aload_n hx hb d_Mdl_close_63 rfl (lv_at hl 0 rfl) ?_
          refine va_get (D := D) (ci := 9) (v := .int lo) (C := R_Mdl) (T := T_Mdl) (N := 23) hx hb hts inw_Mdl hown hK hP 1 rfl rfl 10 (by decide) (hts (.fieldLink R_Mdl 73 "LikelyBitsModel" "low" "I") mw_344) (fun _ h9 => h9) rfl d_Mdl_close_64 ?_
          refine lv_aload_n hx hb d_Mdl_close_67 rfl (lv_at hl 0 rfl) ?_
          refine kqi (va_runV (As := []) (rest := [.int lo]) ⟨hx, hb, hml, hown, hts⟩ (c_M_carry l hl9 D k h0 pP pO pB pS pK th_3 sz op rw bg lo cd wd rm rg rr pl lm nx av sp le la ) (cwV 0 hts (gV mw_340 mw_341 mw_342 mw_331 mw_343) rfl rfl rfl (by decide +kernel) ⟨(Nat.le_of_ble_eq_true rfl), (Nat.le_of_ble_eq_true rfl)⟩) (kRecv (q := (R_Mdl, T_Mdl, 23)) (q0 := 1) (ci := 9) hK hP rfl rfl (kPreR (wc := [(h0, .inr (9, [.ref pP, .ref pO, .int th_3, .int sz, .ref pB, .ref pS, .ref pK, .int op, .int rw, .int bg, .int lo, .int cd, .int wd, .int rm, .int rg, .int rr, .int pl, .int lm, .int nx, .long av, .int sp, .int le, .int la]))]) hE hK hP hS [1] rfl)) rfl rfl hl.1 rfl (lv_room (Nat.le_of_ble_eq_true rfl)) d_Mdl_close_68 ⟨(Nat.le_of_ble_eq_true rfl), (Nat.le_of_ble_eq_true rfl)⟩) hP hS (fun r11 H locs hw hP hS => ?_)
          replace hw := hw.symm
          subst hw
          refine lv_iadd hx hb d_Mdl_close_71 ?_
          refine lv_topi (fun x12 ex12 => ?_)
          refine lv_istore_n (lv' := [(2, .int x12), (0, .ref h0), (1, .int y)]) hx hb d_Mdl_close_72 rfl hl (by decide) rfl (fun ls hl => ?_)
          refine lv_iload_n hx hb d_Mdl_close_73 rfl (lv_at hl 0 rfl) ?_
          refine lv_ldc (v := 65535) hx hb hown (hts (.constant R_Mdl 104 65535) mw_419) d_Mdl_close_74 ?_
          refine lv_ior hx hb d_Mdl_close_76 ?_
          refine lv_topi (fun x13 ex13 => ?_)
          refine lv_istore_n (lv' := [(3, .int x13), (2, .int x12), (0, .ref h0), (1, .int y)]) hx hb d_Mdl_close_77 rfl hl (by decide) rfl (fun ls hl => ?_)
          refine lv_aload_n hx hb d_Mdl_close_78 rfl (lv_at hl 2 rfl) ?_
          refine lv_iload_n hx hb d_Mdl_close_79 rfl (lv_at hl 0 rfl) ?_
          refine lv_iload_n hx hb d_Mdl_close_80 rfl (lv_at hl 1 rfl) ?_
          refine lv_aload_n hx hb d_Mdl_close_81 rfl (lv_at hl 2 rfl) ?_
          refine va_get (D := D) (ci := 9) (v := .int wd) (C := R_Mdl) (T := T_Mdl) (N := 23) hx hb hts inw_Mdl hown hK hP 1 rfl rfl 12 (by decide) (hts (.fieldLink R_Mdl 79 "LikelyBitsModel" "wide" "I") mw_378) (fun _ h9 => h9) rfl d_Mdl_close_82 ?_
          refine lv_iadd hx hb d_Mdl_close_85 ?_
          refine lv_icmp_lt (tgt := 96) hx hb d_Mdl_close_86 (by decide) (fun c14 => ?_) (fun c14 => ?_)
          · refine lv_iload_n hx hb d_Mdl_close_96 rfl (lv_at hl 0 rfl) ?_
            refine kcv (wc := [(h0, .inr (9, [.ref pP, .ref pO, .int th_3, .int sz, .ref pB, .ref pS, .ref pK, .int op, .int rw, .int bg, .int lo, .int cd, .int wd, .int rm, .int rg, .int rr, .int pl, .int lm, .int nx, .long av, .int sp, .int le, .int la])), (pB, .inl (k.1, 65536, .inl B))]) (wr := []) (va_runV (As := [.int x13]) (rest := []) ⟨hx, hb, hml, hown, hts⟩ (c_M_keep l hl9 D k h0 pB H.size pP pO pS pK th_3 sz op rw bg lo cd wd rm rg rr pl lm nx av sp le la B L x13 (by assumption) (by assumption)) (cwV 1 hts (gV mw_389 mw_390 mw_391 mw_331 mw_392) rfl rfl rfl (by decide +kernel) ⟨(Nat.le_of_ble_eq_true rfl), (Nat.le_of_ble_eq_true rfl)⟩) (kRecv (q := (R_Mdl, T_Mdl, 23)) (q0 := 1) (ci := 9) hK hP rfl rfl (kPre (wc := [(h0, .inr (9, [.ref pP, .ref pO, .int th_3, .int sz, .ref pB, .ref pS, .ref pK, .int op, .int rw, .int bg, .int lo, .int cd, .int wd, .int rm, .int rg, .int rr, .int pl, .int lm, .int nx, .long av, .int sp, .int le, .int la])), (pB, .inl (k.1, 65536, .inl B))]) hE hK hP hD hS hA [1, 0] rfl (by decide))) rfl rfl hl.1 rfl (lv_room (Nat.le_of_ble_eq_true rfl)) d_Mdl_close_97 ⟨(Nat.le_of_ble_eq_true rfl), (Nat.le_of_ble_eq_true rfl)⟩) hP hD hS hA [1, 0] [] rfl rfl (by decide) (by decide) (fun zz uu H locs hw18 hz19 hP hD hS => ?_)
            obtain ⟨cd_15, lo_16⟩ := uu
            have hw18 : cd_15 = mkc L bg rm x13 ∧ lo_16 = x13 - mcy (mkc L bg rm x13) rm := hw18
            have hP : va_P D vwCl [(h0, .inr (9, [.ref pP, .ref pO, .int th_3, .int sz, .ref pB, .ref pS, .ref pK, .int op, .int rw, .int bg, .int lo_16, .int cd_15, .int wd, .int rm, .int rg, .int rr, .int pl, .int lm, .int nx, .long av, .int sp, .int le, .int la])), (pB, .inl (k.1, 65536, .inl B))] H := hP
            have hD : va_D A [(h0, .inr (9, [.ref pP, .ref pO, .int th_3, .int sz, .ref pB, .ref pS, .ref pK, .int op, .int rw, .int bg, .int lo_16, .int cd_15, .int wd, .int rm, .int rg, .int rr, .int pl, .int lm, .int nx, .long av, .int sp, .int le, .int la])), (pB, .inl (k.1, 65536, .inl B))] := hD
            refine lv_aload_n hx hb d_Mdl_close_100 rfl (lv_at hl 2 rfl) ?_
            have hcd9 : cd_15 = 0 ∨ ¬ sz ≤ bg := by rw [hw18.1, hM.1]; exact mkc_hl _ _ _ _
            have hlt9 : L.length < 65536 := by omega
            refine kcv (wc := [(h0, .inr (9, [.ref pP, .ref pO, .int th_3, .int sz, .ref pB, .ref pS, .ref pK, .int op, .int rw, .int bg, .int lo_16, .int cd_15, .int wd, .int rm, .int rg, .int rr, .int pl, .int lm, .int nx, .long av, .int sp, .int le, .int la])), (pB, .inl (k.1, 65536, .inl B))]) (wr := []) (va_runV (As := []) (rest := []) ⟨hx, hb, hml, hown, hts⟩ (c_M_push l hl9 D k h0 pB H.size pP pO pS pK th_3 sz op rw bg lo_16 cd_15 wd rm rg rr pl lm nx av sp le la B L (by assumption) (by assumption) (by assumption) (by assumption)) (cwV 0 hts (gV mw_420 mw_421 mw_422 mw_331 mw_423) rfl rfl rfl (by decide +kernel) ⟨(Nat.le_of_ble_eq_true rfl), (Nat.le_of_ble_eq_true rfl)⟩) (kRecv (q := (R_Mdl, T_Mdl, 23)) (q0 := 0) (ci := 9) hK hP rfl rfl (kPre (wc := [(h0, .inr (9, [.ref pP, .ref pO, .int th_3, .int sz, .ref pB, .ref pS, .ref pK, .int op, .int rw, .int bg, .int lo_16, .int cd_15, .int wd, .int rm, .int rg, .int rr, .int pl, .int lm, .int nx, .long av, .int sp, .int le, .int la])), (pB, .inl (k.1, 65536, .inl B))]) hE hK hP hD hS hA [0, 1] rfl (by decide))) rfl rfl hl.1 rfl (lv_room (Nat.le_of_ble_eq_true rfl)) d_Mdl_close_101 ⟨(Nat.le_of_ble_eq_true rfl), (Nat.le_of_ble_eq_true rfl)⟩) hP hD hS hA [0, 1] [] rfl rfl (by decide) (by decide) (fun zz uu H locs hw26 hz27 hP hD hS => ?_)
            obtain ⟨B_23, sz_24⟩ := zz
            obtain ⟨lo_20, rm_21, L_22⟩ := uu
            have hw26 : lo_20 = (mbo bg (lo_16 <<< (rm &&& 31)) cd_15 L).1 ∧ rm_21 = (mbo bg (lo_16 <<< (rm &&& 31)) cd_15 L).2.1 ∧ L_22 = (mbo bg (lo_16 <<< (rm &&& 31)) cd_15 L).2.2 := hw26
            have hz27 : row_ok 65536 B_23 sz_24 L_22 := hz27
            have hP : va_P D vwCl [(h0, .inr (9, [.ref pP, .ref pO, .int th_3, .int sz_24, .ref pB, .ref pS, .ref pK, .int op, .int rw, .int bg, .int lo_20, .int 0, .int wd, .int rm_21, .int rg, .int rr, .int pl, .int lm, .int nx, .long av, .int sp, .int le, .int la])), (pB, .inl (k.1, 65536, .inl B_23))] H := hP
            have hD : va_D A [(h0, .inr (9, [.ref pP, .ref pO, .int th_3, .int sz_24, .ref pB, .ref pS, .ref pK, .int op, .int rw, .int bg, .int lo_20, .int 0, .int wd, .int rm_21, .int rg, .int rr, .int pl, .int lm, .int nx, .long av, .int sp, .int le, .int la])), (pB, .inl (k.1, 65536, .inl B_23))] := hD
            refine lv_aload_n hx hb d_Mdl_close_104 rfl (lv_at hl 2 rfl) ?_
            have hcd8 : (0 : Int32) = 0 ∨ ¬ sz_24 ≤ bg := Or.inl rfl
            have hlt8 : L_22.length < 65536 := by rw [hw26.2.2, mbo_len]; omega
            refine kcv (wc := [(h0, .inr (9, [.ref pP, .ref pO, .int th_3, .int sz_24, .ref pB, .ref pS, .ref pK, .int op, .int rw, .int bg, .int lo_20, .int 0, .int wd, .int rm_21, .int rg, .int rr, .int pl, .int lm, .int nx, .long av, .int sp, .int le, .int la])), (pB, .inl (k.1, 65536, .inl B_23))]) (wr := []) (va_runV (As := []) (rest := []) ⟨hx, hb, hml, hown, hts⟩ (c_M_push l hl9 D k h0 pB H.size pP pO pS pK th_3 sz_24 op rw bg lo_20 0 wd rm_21 rg rr pl lm nx av sp le la B_23 L_22 (by assumption) (by assumption) (by assumption) (by assumption)) (cwV 0 hts (gV mw_420 mw_421 mw_422 mw_331 mw_423) rfl rfl rfl (by decide +kernel) ⟨(Nat.le_of_ble_eq_true rfl), (Nat.le_of_ble_eq_true rfl)⟩) (kRecv (q := (R_Mdl, T_Mdl, 23)) (q0 := 0) (ci := 9) hK hP rfl rfl (kPre (wc := [(h0, .inr (9, [.ref pP, .ref pO, .int th_3, .int sz_24, .ref pB, .ref pS, .ref pK, .int op, .int rw, .int bg, .int lo_20, .int 0, .int wd, .int rm_21, .int rg, .int rr, .int pl, .int lm, .int nx, .long av, .int sp, .int le, .int la])), (pB, .inl (k.1, 65536, .inl B_23))]) hE hK hP hD hS hA [0, 1] rfl (by decide))) rfl rfl hl.1 rfl (lv_room (Nat.le_of_ble_eq_true rfl)) d_Mdl_close_105 ⟨(Nat.le_of_ble_eq_true rfl), (Nat.le_of_ble_eq_true rfl)⟩) hP hD hS hA [0, 1] [] rfl rfl (by decide) (by decide) (fun zz uu H locs hw34 hz35 hP hD hS => ?_)
            obtain ⟨B_31, sz_32⟩ := zz
            obtain ⟨lo_28, rm_29, L_30⟩ := uu
            have hw34 : lo_28 = (mbo bg (lo_20 <<< (rm_21 &&& 31)) 0 L_22).1 ∧ rm_29 = (mbo bg (lo_20 <<< (rm_21 &&& 31)) 0 L_22).2.1 ∧ L_30 = (mbo bg (lo_20 <<< (rm_21 &&& 31)) 0 L_22).2.2 := hw34
            have hz35 : row_ok 65536 B_31 sz_32 L_30 := hz35
            have hP : va_P D vwCl [(h0, .inr (9, [.ref pP, .ref pO, .int th_3, .int sz_32, .ref pB, .ref pS, .ref pK, .int op, .int rw, .int bg, .int lo_28, .int 0, .int wd, .int rm_29, .int rg, .int rr, .int pl, .int lm, .int nx, .long av, .int sp, .int le, .int la])), (pB, .inl (k.1, 65536, .inl B_31))] H := hP
            have hD : va_D A [(h0, .inr (9, [.ref pP, .ref pO, .int th_3, .int sz_32, .ref pB, .ref pS, .ref pK, .int op, .int rw, .int bg, .int lo_28, .int 0, .int wd, .int rm_29, .int rg, .int rr, .int pl, .int lm, .int nx, .long av, .int sp, .int le, .int la])), (pB, .inl (k.1, 65536, .inl B_31))] := hD
            refine lv_goto (tgt := 137) hx hb d_Mdl_close_108 (by decide) ?_
            refine lv_aload_n hx hb d_Mdl_close_137 rfl (lv_at hl 2 rfl) ?_
            refine kqi (va_runV (As := []) (rest := []) ⟨hx, hb, hml, hown, hts⟩ (c_M_hasLast l hl9 D k h0 pP pO pB pS pK th_3 sz_32 op rw bg lo_28 0 wd rm_29 rg rr pl lm nx av sp le la ) (cwV 0 hts (gV mw_328 mw_329 mw_330 mw_331 mw_332) rfl rfl rfl (by decide +kernel) ⟨(Nat.le_of_ble_eq_true rfl), (Nat.le_of_ble_eq_true rfl)⟩) (kRecv (q := (R_Mdl, T_Mdl, 23)) (q0 := 0) (ci := 9) hK hP rfl rfl (kPreR (wc := [(h0, .inr (9, [.ref pP, .ref pO, .int th_3, .int sz_32, .ref pB, .ref pS, .ref pK, .int op, .int rw, .int bg, .int lo_28, .int 0, .int wd, .int rm_29, .int rg, .int rr, .int pl, .int lm, .int nx, .long av, .int sp, .int le, .int la]))]) hE hK hP hS [0] rfl)) rfl rfl hl.1 rfl (lv_room (Nat.le_of_ble_eq_true rfl)) d_Mdl_close_138 ⟨(Nat.le_of_ble_eq_true rfl), (Nat.le_of_ble_eq_true rfl)⟩) hP hS (fun r36 H locs hw hP hS => ?_)
            replace hw := hw.symm
            subst hw
            refine lv_if_eq (tgt := 171) hx hb d_Mdl_close_141 (by decide) (fun c37 => ?_) (fun c37 => ?_)
            · have hq38 : nI L_30.length ≤ bg := by rw [← hz35.1]; exact mhl_eq c37
              refine lv_aload_n hx hb d_Mdl_close_171 rfl (lv_at hl 2 rfl) ?_
              refine lv_iconst (v := 0) hx hb d_Mdl_close_172 (by decide) ?_
              refine va_put (D := D) (ci := 9) (v := .int 0) (ty := .boolean) (C := R_Mdl) (T := T_Mdl) (N := 23) hx hb hts inw_Mdl ty_Mdl tyok_Mdl nm_Mdl hown hK hP hD hS 0 rfl rfl 7 (by decide) (hts (.fieldLink R_Mdl 33 "LikelyBitsModel" "open" "Z") mw_325) (fun _ h9 => h9) rfl (by decide +kernel) rfl rfl (Nat.le_of_ble_eq_true rfl) d_Mdl_close_173 (fun H locs hP hD hS => ?_)
              have hP : va_P D vwCl [(h0, .inr (9, [.ref pP, .ref pO, .int th_3, .int sz_32, .ref pB, .ref pS, .ref pK, .int 0, .int rw, .int bg, .int lo_28, .int 0, .int wd, .int rm_29, .int rg, .int rr, .int pl, .int lm, .int nx, .long av, .int sp, .int le, .int la])), (pB, .inl (k.1, 65536, .inl B_31))] H := hP
              have hD : va_D A [(h0, .inr (9, [.ref pP, .ref pO, .int th_3, .int sz_32, .ref pB, .ref pS, .ref pK, .int 0, .int rw, .int bg, .int lo_28, .int 0, .int wd, .int rm_29, .int rg, .int rr, .int pl, .int lm, .int nx, .long av, .int sp, .int le, .int la])), (pB, .inl (k.1, 65536, .inl B_31))] := hD
              refine lv_aload_n hx hb d_Mdl_close_176 rfl (lv_at hl 2 rfl) ?_
              refine va_get (D := D) (ci := 9) (v := .int sz_32) (C := R_Mdl) (T := T_Mdl) (N := 23) hx hb hts inw_Mdl hown hK hP 0 rfl rfl 3 (by decide) (hts (.fieldLink R_Mdl 30 "LikelyBitsModel" "size" "I") mw_324) (fun _ h9 => h9) rfl d_Mdl_close_177 ?_
              refine lv_aload_n hx hb d_Mdl_close_180 rfl (lv_at hl 2 rfl) ?_
              refine va_get (D := D) (ci := 9) (v := .int bg) (C := R_Mdl) (T := T_Mdl) (N := 23) hx hb hts inw_Mdl hown hK hP 0 rfl rfl 9 (by decide) (hts (.fieldLink R_Mdl 53 "LikelyBitsModel" "begin" "I") mw_327) (fun _ h9 => h9) rfl d_Mdl_close_181 ?_
              refine lv_isub hx hb d_Mdl_close_184 ?_
              exact kri (wo := wo_M_close k h0 pB pP pO pS pK th sz op rw bg lo cd wd rm rg rr pl lm nx av sp le la B L y) hx hb hr hlk hP hD hS (th_3, 0, lo_28, 0, rm_29, L_30) (B_31, sz_32) (by have e0 := ex12; have e1 := ex13; have e2 := hw18; have e3 := hw26; have e4 := hw34; have hm : mcv lo cd wd rm = x13 := (by rw [mcv, ← e0, ← e1, if_pos c14]); have hB : mcb rw bg lo cd wd rm L y = (lo_28, 0, rm_29, L_30) := (by rw [mcb, if_pos c8, if_pos c9, mc0, hm, mck]; dsimp only; rw [← e2.2, ← e2.1, mc2]; simp only [mpu]; rw [← e3.1, ← e3.2.1, ← e3.2.2, ← e4.1, ← e4.2.1, ← e4.2.2]); have hT : mcD L_30 bg = L_30 := (by rw [mcD, if_pos hq38]); have hRf : row_ok 65536 _ sz_32 L_30 := (by exact hz35); exact ⟨by rw [hc9]; exact hw5.2, fun _ => (by rw [hB]; exact ⟨by rw [hRf.1], rfl, rfl, rfl, rfl, hT.symm⟩), fun h => absurd hq9 h⟩) (by unfold ex_M_close; exact hz35) [0, 1] rfl (by decide) (Nat.le_of_ble_eq_true rfl) (Nat.le_of_ble_eq_true rfl) d_Mdl_close_185
            · have hq39 : ¬ nI L_30.length ≤ bg := by rw [← hz35.1]; exact mhl_ne c37
              have hq39n := mhl_ne c37
              refine lv_aload_n hx hb d_Mdl_close_144 rfl (lv_at hl 2 rfl) ?_
              refine va_get (D := D) (ci := 9) (v := .ref pB) (C := R_Mdl) (T := T_Mdl) (N := 23) hx hb hts inw_Mdl hown hK hP 0 rfl rfl 4 (by decide) (hts (.fieldLink R_Mdl 17 "LikelyBitsModel" "bytes" "[I") mw_333) (fun _ h9 => h9) rfl d_Mdl_close_145 ?_
              refine lv_aload_n hx hb d_Mdl_close_148 rfl (lv_at hl 2 rfl) ?_
              refine va_get (D := D) (ci := 9) (v := .int sz_32) (C := R_Mdl) (T := T_Mdl) (N := 23) hx hb hts inw_Mdl hown hK hP 0 rfl rfl 3 (by decide) (hts (.fieldLink R_Mdl 30 "LikelyBitsModel" "size" "I") mw_324) (fun _ h9 => h9) rfl d_Mdl_close_149 ?_
              refine lv_iconst (v := 1) hx hb d_Mdl_close_152 (by decide) ?_
              refine lv_isub hx hb d_Mdl_close_153 ?_
              refine va_iald hx hb hK hP 1 0 rfl rfl (m_lin hz35 hbg (mhl_ne c37)) d_Mdl_close_154 ?_
              refine lv_sipush (v := 255) hx hb d_Mdl_close_155 (by decide) ?_
              refine lv_icmp_ne (tgt := 171) hx hb d_Mdl_close_158 (by decide) (fun c40 => ?_) (fun c40 => ?_)
              · have hq41 : ¬ mlast L_30 = 255 := fun q => c40 ((m_lv hz35 hbg (mhl_ne c37)).trans q)
                refine lv_aload_n hx hb d_Mdl_close_171 rfl (lv_at hl 2 rfl) ?_
                refine lv_iconst (v := 0) hx hb d_Mdl_close_172 (by decide) ?_
                refine va_put (D := D) (ci := 9) (v := .int 0) (ty := .boolean) (C := R_Mdl) (T := T_Mdl) (N := 23) hx hb hts inw_Mdl ty_Mdl tyok_Mdl nm_Mdl hown hK hP hD hS 0 rfl rfl 7 (by decide) (hts (.fieldLink R_Mdl 33 "LikelyBitsModel" "open" "Z") mw_325) (fun _ h9 => h9) rfl (by decide +kernel) rfl rfl (Nat.le_of_ble_eq_true rfl) d_Mdl_close_173 (fun H locs hP hD hS => ?_)
                have hP : va_P D vwCl [(h0, .inr (9, [.ref pP, .ref pO, .int th_3, .int sz_32, .ref pB, .ref pS, .ref pK, .int 0, .int rw, .int bg, .int lo_28, .int 0, .int wd, .int rm_29, .int rg, .int rr, .int pl, .int lm, .int nx, .long av, .int sp, .int le, .int la])), (pB, .inl (k.1, 65536, .inl B_31))] H := hP
                have hD : va_D A [(h0, .inr (9, [.ref pP, .ref pO, .int th_3, .int sz_32, .ref pB, .ref pS, .ref pK, .int 0, .int rw, .int bg, .int lo_28, .int 0, .int wd, .int rm_29, .int rg, .int rr, .int pl, .int lm, .int nx, .long av, .int sp, .int le, .int la])), (pB, .inl (k.1, 65536, .inl B_31))] := hD
                refine lv_aload_n hx hb d_Mdl_close_176 rfl (lv_at hl 2 rfl) ?_
                refine va_get (D := D) (ci := 9) (v := .int sz_32) (C := R_Mdl) (T := T_Mdl) (N := 23) hx hb hts inw_Mdl hown hK hP 0 rfl rfl 3 (by decide) (hts (.fieldLink R_Mdl 30 "LikelyBitsModel" "size" "I") mw_324) (fun _ h9 => h9) rfl d_Mdl_close_177 ?_
                refine lv_aload_n hx hb d_Mdl_close_180 rfl (lv_at hl 2 rfl) ?_
                refine va_get (D := D) (ci := 9) (v := .int bg) (C := R_Mdl) (T := T_Mdl) (N := 23) hx hb hts inw_Mdl hown hK hP 0 rfl rfl 9 (by decide) (hts (.fieldLink R_Mdl 53 "LikelyBitsModel" "begin" "I") mw_327) (fun _ h9 => h9) rfl d_Mdl_close_181 ?_
                refine lv_isub hx hb d_Mdl_close_184 ?_
                exact kri (wo := wo_M_close k h0 pB pP pO pS pK th sz op rw bg lo cd wd rm rg rr pl lm nx av sp le la B L y) hx hb hr hlk hP hD hS (th_3, 0, lo_28, 0, rm_29, L_30) (B_31, sz_32) (by have e0 := ex12; have e1 := ex13; have e2 := hw18; have e3 := hw26; have e4 := hw34; have hm : mcv lo cd wd rm = x13 := (by rw [mcv, ← e0, ← e1, if_pos c14]); have hB : mcb rw bg lo cd wd rm L y = (lo_28, 0, rm_29, L_30) := (by rw [mcb, if_pos c8, if_pos c9, mc0, hm, mck]; dsimp only; rw [← e2.2, ← e2.1, mc2]; simp only [mpu]; rw [← e3.1, ← e3.2.1, ← e3.2.2, ← e4.1, ← e4.2.1, ← e4.2.2]); have hT : mcD L_30 bg = L_30 := (by rw [mcD, if_neg hq39, if_neg hq41]); have hRf : row_ok 65536 _ sz_32 L_30 := (by exact hz35); exact ⟨by rw [hc9]; exact hw5.2, fun _ => (by rw [hB]; exact ⟨by rw [hRf.1], rfl, rfl, rfl, rfl, hT.symm⟩), fun h => absurd hq9 h⟩) (by unfold ex_M_close; exact hz35) [0, 1] rfl (by decide) (Nat.le_of_ble_eq_true rfl) (Nat.le_of_ble_eq_true rfl) d_Mdl_close_185
              · have hq42 : mlast L_30 = 255 := (m_lv hz35 hbg (mhl_ne c37)).symm.trans c40
                refine lv_aload_n hx hb d_Mdl_close_161 rfl (lv_at hl 2 rfl) ?_
                refine lv_dup hx hb d_Mdl_close_162 rfl ?_
                refine va_get (D := D) (ci := 9) (v := .int sz_32) (C := R_Mdl) (T := T_Mdl) (N := 23) hx hb hts inw_Mdl hown hK hP 0 rfl rfl 3 (by decide) (hts (.fieldLink R_Mdl 30 "LikelyBitsModel" "size" "I") mw_324) (fun _ h9 => h9) rfl d_Mdl_close_163 ?_
                refine lv_iconst (v := 1) hx hb d_Mdl_close_166 (by decide) ?_
                refine lv_isub hx hb d_Mdl_close_167 ?_
                refine lv_topi (fun x43 ex43 => ?_)
                refine va_put (D := D) (ci := 9) (v := .int x43) (ty := .int) (C := R_Mdl) (T := T_Mdl) (N := 23) hx hb hts inw_Mdl ty_Mdl tyok_Mdl nm_Mdl hown hK hP hD hS 0 rfl rfl 3 (by decide) (hts (.fieldLink R_Mdl 30 "LikelyBitsModel" "size" "I") mw_324) (fun _ h9 => h9) rfl (by decide +kernel) rfl rfl (Nat.le_of_ble_eq_true rfl) d_Mdl_close_168 (fun H locs hP hD hS => ?_)
                have hP : va_P D vwCl [(h0, .inr (9, [.ref pP, .ref pO, .int th_3, .int x43, .ref pB, .ref pS, .ref pK, .int op, .int rw, .int bg, .int lo_28, .int 0, .int wd, .int rm_29, .int rg, .int rr, .int pl, .int lm, .int nx, .long av, .int sp, .int le, .int la])), (pB, .inl (k.1, 65536, .inl B_31))] H := hP
                have hD : va_D A [(h0, .inr (9, [.ref pP, .ref pO, .int th_3, .int x43, .ref pB, .ref pS, .ref pK, .int op, .int rw, .int bg, .int lo_28, .int 0, .int wd, .int rm_29, .int rg, .int rr, .int pl, .int lm, .int nx, .long av, .int sp, .int le, .int la])), (pB, .inl (k.1, 65536, .inl B_31))] := hD
                refine lv_aload_n hx hb d_Mdl_close_171 rfl (lv_at hl 2 rfl) ?_
                refine lv_iconst (v := 0) hx hb d_Mdl_close_172 (by decide) ?_
                refine va_put (D := D) (ci := 9) (v := .int 0) (ty := .boolean) (C := R_Mdl) (T := T_Mdl) (N := 23) hx hb hts inw_Mdl ty_Mdl tyok_Mdl nm_Mdl hown hK hP hD hS 0 rfl rfl 7 (by decide) (hts (.fieldLink R_Mdl 33 "LikelyBitsModel" "open" "Z") mw_325) (fun _ h9 => h9) rfl (by decide +kernel) rfl rfl (Nat.le_of_ble_eq_true rfl) d_Mdl_close_173 (fun H locs hP hD hS => ?_)
                have hP : va_P D vwCl [(h0, .inr (9, [.ref pP, .ref pO, .int th_3, .int x43, .ref pB, .ref pS, .ref pK, .int 0, .int rw, .int bg, .int lo_28, .int 0, .int wd, .int rm_29, .int rg, .int rr, .int pl, .int lm, .int nx, .long av, .int sp, .int le, .int la])), (pB, .inl (k.1, 65536, .inl B_31))] H := hP
                have hD : va_D A [(h0, .inr (9, [.ref pP, .ref pO, .int th_3, .int x43, .ref pB, .ref pS, .ref pK, .int 0, .int rw, .int bg, .int lo_28, .int 0, .int wd, .int rm_29, .int rg, .int rr, .int pl, .int lm, .int nx, .long av, .int sp, .int le, .int la])), (pB, .inl (k.1, 65536, .inl B_31))] := hD
                refine lv_aload_n hx hb d_Mdl_close_176 rfl (lv_at hl 2 rfl) ?_
                refine va_get (D := D) (ci := 9) (v := .int x43) (C := R_Mdl) (T := T_Mdl) (N := 23) hx hb hts inw_Mdl hown hK hP 0 rfl rfl 3 (by decide) (hts (.fieldLink R_Mdl 30 "LikelyBitsModel" "size" "I") mw_324) (fun _ h9 => h9) rfl d_Mdl_close_177 ?_
                refine lv_aload_n hx hb d_Mdl_close_180 rfl (lv_at hl 2 rfl) ?_
                refine va_get (D := D) (ci := 9) (v := .int bg) (C := R_Mdl) (T := T_Mdl) (N := 23) hx hb hts inw_Mdl hown hK hP 0 rfl rfl 9 (by decide) (hts (.fieldLink R_Mdl 53 "LikelyBitsModel" "begin" "I") mw_327) (fun _ h9 => h9) rfl d_Mdl_close_181 ?_
                refine lv_isub hx hb d_Mdl_close_184 ?_
                exact kri (wo := wo_M_close k h0 pB pP pO pS pK th sz op rw bg lo cd wd rm rg rr pl lm nx av sp le la B L y) hx hb hr hlk hP hD hS (th_3, 0, lo_28, 0, rm_29, L_30.dropLast) (B_31, x43) (by have e0 := ex12; have e1 := ex13; have e2 := hw18; have e3 := hw26; have e4 := hw34; have hm : mcv lo cd wd rm = x13 := (by rw [mcv, ← e0, ← e1, if_pos c14]); have hB : mcb rw bg lo cd wd rm L y = (lo_28, 0, rm_29, L_30) := (by rw [mcb, if_pos c8, if_pos c9, mc0, hm, mck]; dsimp only; rw [← e2.2, ← e2.1, mc2]; simp only [mpu]; rw [← e3.1, ← e3.2.1, ← e3.2.2, ← e4.1, ← e4.2.1, ← e4.2.2]); have hT : mcD L_30 bg = L_30.dropLast := (by rw [mcD, if_neg hq39, if_pos hq42]); have hRf : row_ok 65536 _ x43 L_30.dropLast := (by rw [ex43]; exact (m_drop hz35 hbg (mhl_ne c37))); exact ⟨by rw [hc9]; exact hw5.2, fun _ => (by rw [hB]; exact ⟨by rw [hRf.1], rfl, rfl, rfl, rfl, hT.symm⟩), fun h => absurd hq9 h⟩) (by unfold ex_M_close; rw [ex43]; exact (m_drop hz35 hbg (mhl_ne c37))) [0, 1] rfl (by decide) (Nat.le_of_ble_eq_true rfl) (Nat.le_of_ble_eq_true rfl) d_Mdl_close_185
          · refine lv_iload_n hx hb d_Mdl_close_89 rfl (lv_at hl 0 rfl) ?_
            refine lv_ldc (v := 32768) hx hb hown (hts (.constant R_Mdl 52 32768) mw_377) d_Mdl_close_90 ?_
            refine lv_isub hx hb d_Mdl_close_92 ?_
            refine lv_goto (tgt := 97) hx hb d_Mdl_close_93 (by decide) ?_
            refine kcv (wc := [(h0, .inr (9, [.ref pP, .ref pO, .int th_3, .int sz, .ref pB, .ref pS, .ref pK, .int op, .int rw, .int bg, .int lo, .int cd, .int wd, .int rm, .int rg, .int rr, .int pl, .int lm, .int nx, .long av, .int sp, .int le, .int la])), (pB, .inl (k.1, 65536, .inl B))]) (wr := []) (va_runV (As := [.int (x13 - 32768)]) (rest := []) ⟨hx, hb, hml, hown, hts⟩ (c_M_keep l hl9 D k h0 pB H.size pP pO pS pK th_3 sz op rw bg lo cd wd rm rg rr pl lm nx av sp le la B L (x13 - 32768) (by assumption) (by assumption)) (cwV 1 hts (gV mw_389 mw_390 mw_391 mw_331 mw_392) rfl rfl rfl (by decide +kernel) ⟨(Nat.le_of_ble_eq_true rfl), (Nat.le_of_ble_eq_true rfl)⟩) (kRecv (q := (R_Mdl, T_Mdl, 23)) (q0 := 1) (ci := 9) hK hP rfl rfl (kPre (wc := [(h0, .inr (9, [.ref pP, .ref pO, .int th_3, .int sz, .ref pB, .ref pS, .ref pK, .int op, .int rw, .int bg, .int lo, .int cd, .int wd, .int rm, .int rg, .int rr, .int pl, .int lm, .int nx, .long av, .int sp, .int le, .int la])), (pB, .inl (k.1, 65536, .inl B))]) hE hK hP hD hS hA [1, 0] rfl (by decide))) rfl rfl hl.1 rfl (lv_room (Nat.le_of_ble_eq_true rfl)) d_Mdl_close_97 ⟨(Nat.le_of_ble_eq_true rfl), (Nat.le_of_ble_eq_true rfl)⟩) hP hD hS hA [1, 0] [] rfl rfl (by decide) (by decide) (fun zz uu H locs hw47 hz48 hP hD hS => ?_)
            obtain ⟨cd_44, lo_45⟩ := uu
            have hw47 : cd_44 = mkc L bg rm (x13 - 32768) ∧ lo_45 = (x13 - 32768) - mcy (mkc L bg rm (x13 - 32768)) rm := hw47
            have hP : va_P D vwCl [(h0, .inr (9, [.ref pP, .ref pO, .int th_3, .int sz, .ref pB, .ref pS, .ref pK, .int op, .int rw, .int bg, .int lo_45, .int cd_44, .int wd, .int rm, .int rg, .int rr, .int pl, .int lm, .int nx, .long av, .int sp, .int le, .int la])), (pB, .inl (k.1, 65536, .inl B))] H := hP
            have hD : va_D A [(h0, .inr (9, [.ref pP, .ref pO, .int th_3, .int sz, .ref pB, .ref pS, .ref pK, .int op, .int rw, .int bg, .int lo_45, .int cd_44, .int wd, .int rm, .int rg, .int rr, .int pl, .int lm, .int nx, .long av, .int sp, .int le, .int la])), (pB, .inl (k.1, 65536, .inl B))] := hD
            refine lv_aload_n hx hb d_Mdl_close_100 rfl (lv_at hl 2 rfl) ?_
            have hcd9 : cd_44 = 0 ∨ ¬ sz ≤ bg := by rw [hw47.1, hM.1]; exact mkc_hl _ _ _ _
            have hlt9 : L.length < 65536 := by omega
            refine kcv (wc := [(h0, .inr (9, [.ref pP, .ref pO, .int th_3, .int sz, .ref pB, .ref pS, .ref pK, .int op, .int rw, .int bg, .int lo_45, .int cd_44, .int wd, .int rm, .int rg, .int rr, .int pl, .int lm, .int nx, .long av, .int sp, .int le, .int la])), (pB, .inl (k.1, 65536, .inl B))]) (wr := []) (va_runV (As := []) (rest := []) ⟨hx, hb, hml, hown, hts⟩ (c_M_push l hl9 D k h0 pB H.size pP pO pS pK th_3 sz op rw bg lo_45 cd_44 wd rm rg rr pl lm nx av sp le la B L (by assumption) (by assumption) (by assumption) (by assumption)) (cwV 0 hts (gV mw_420 mw_421 mw_422 mw_331 mw_423) rfl rfl rfl (by decide +kernel) ⟨(Nat.le_of_ble_eq_true rfl), (Nat.le_of_ble_eq_true rfl)⟩) (kRecv (q := (R_Mdl, T_Mdl, 23)) (q0 := 0) (ci := 9) hK hP rfl rfl (kPre (wc := [(h0, .inr (9, [.ref pP, .ref pO, .int th_3, .int sz, .ref pB, .ref pS, .ref pK, .int op, .int rw, .int bg, .int lo_45, .int cd_44, .int wd, .int rm, .int rg, .int rr, .int pl, .int lm, .int nx, .long av, .int sp, .int le, .int la])), (pB, .inl (k.1, 65536, .inl B))]) hE hK hP hD hS hA [0, 1] rfl (by decide))) rfl rfl hl.1 rfl (lv_room (Nat.le_of_ble_eq_true rfl)) d_Mdl_close_101 ⟨(Nat.le_of_ble_eq_true rfl), (Nat.le_of_ble_eq_true rfl)⟩) hP hD hS hA [0, 1] [] rfl rfl (by decide) (by decide) (fun zz uu H locs hw55 hz56 hP hD hS => ?_)
            obtain ⟨B_52, sz_53⟩ := zz
            obtain ⟨lo_49, rm_50, L_51⟩ := uu
            have hw55 : lo_49 = (mbo bg (lo_45 <<< (rm &&& 31)) cd_44 L).1 ∧ rm_50 = (mbo bg (lo_45 <<< (rm &&& 31)) cd_44 L).2.1 ∧ L_51 = (mbo bg (lo_45 <<< (rm &&& 31)) cd_44 L).2.2 := hw55
            have hz56 : row_ok 65536 B_52 sz_53 L_51 := hz56
            have hP : va_P D vwCl [(h0, .inr (9, [.ref pP, .ref pO, .int th_3, .int sz_53, .ref pB, .ref pS, .ref pK, .int op, .int rw, .int bg, .int lo_49, .int 0, .int wd, .int rm_50, .int rg, .int rr, .int pl, .int lm, .int nx, .long av, .int sp, .int le, .int la])), (pB, .inl (k.1, 65536, .inl B_52))] H := hP
            have hD : va_D A [(h0, .inr (9, [.ref pP, .ref pO, .int th_3, .int sz_53, .ref pB, .ref pS, .ref pK, .int op, .int rw, .int bg, .int lo_49, .int 0, .int wd, .int rm_50, .int rg, .int rr, .int pl, .int lm, .int nx, .long av, .int sp, .int le, .int la])), (pB, .inl (k.1, 65536, .inl B_52))] := hD
            refine lv_aload_n hx hb d_Mdl_close_104 rfl (lv_at hl 2 rfl) ?_
            have hcd8 : (0 : Int32) = 0 ∨ ¬ sz_53 ≤ bg := Or.inl rfl
            have hlt8 : L_51.length < 65536 := by rw [hw55.2.2, mbo_len]; omega
            refine kcv (wc := [(h0, .inr (9, [.ref pP, .ref pO, .int th_3, .int sz_53, .ref pB, .ref pS, .ref pK, .int op, .int rw, .int bg, .int lo_49, .int 0, .int wd, .int rm_50, .int rg, .int rr, .int pl, .int lm, .int nx, .long av, .int sp, .int le, .int la])), (pB, .inl (k.1, 65536, .inl B_52))]) (wr := []) (va_runV (As := []) (rest := []) ⟨hx, hb, hml, hown, hts⟩ (c_M_push l hl9 D k h0 pB H.size pP pO pS pK th_3 sz_53 op rw bg lo_49 0 wd rm_50 rg rr pl lm nx av sp le la B_52 L_51 (by assumption) (by assumption) (by assumption) (by assumption)) (cwV 0 hts (gV mw_420 mw_421 mw_422 mw_331 mw_423) rfl rfl rfl (by decide +kernel) ⟨(Nat.le_of_ble_eq_true rfl), (Nat.le_of_ble_eq_true rfl)⟩) (kRecv (q := (R_Mdl, T_Mdl, 23)) (q0 := 0) (ci := 9) hK hP rfl rfl (kPre (wc := [(h0, .inr (9, [.ref pP, .ref pO, .int th_3, .int sz_53, .ref pB, .ref pS, .ref pK, .int op, .int rw, .int bg, .int lo_49, .int 0, .int wd, .int rm_50, .int rg, .int rr, .int pl, .int lm, .int nx, .long av, .int sp, .int le, .int la])), (pB, .inl (k.1, 65536, .inl B_52))]) hE hK hP hD hS hA [0, 1] rfl (by decide))) rfl rfl hl.1 rfl (lv_room (Nat.le_of_ble_eq_true rfl)) d_Mdl_close_105 ⟨(Nat.le_of_ble_eq_true rfl), (Nat.le_of_ble_eq_true rfl)⟩) hP hD hS hA [0, 1] [] rfl rfl (by decide) (by decide) (fun zz uu H locs hw63 hz64 hP hD hS => ?_)
            obtain ⟨B_60, sz_61⟩ := zz
            obtain ⟨lo_57, rm_58, L_59⟩ := uu
            have hw63 : lo_57 = (mbo bg (lo_49 <<< (rm_50 &&& 31)) 0 L_51).1 ∧ rm_58 = (mbo bg (lo_49 <<< (rm_50 &&& 31)) 0 L_51).2.1 ∧ L_59 = (mbo bg (lo_49 <<< (rm_50 &&& 31)) 0 L_51).2.2 := hw63
            have hz64 : row_ok 65536 B_60 sz_61 L_59 := hz64
            have hP : va_P D vwCl [(h0, .inr (9, [.ref pP, .ref pO, .int th_3, .int sz_61, .ref pB, .ref pS, .ref pK, .int op, .int rw, .int bg, .int lo_57, .int 0, .int wd, .int rm_58, .int rg, .int rr, .int pl, .int lm, .int nx, .long av, .int sp, .int le, .int la])), (pB, .inl (k.1, 65536, .inl B_60))] H := hP
            have hD : va_D A [(h0, .inr (9, [.ref pP, .ref pO, .int th_3, .int sz_61, .ref pB, .ref pS, .ref pK, .int op, .int rw, .int bg, .int lo_57, .int 0, .int wd, .int rm_58, .int rg, .int rr, .int pl, .int lm, .int nx, .long av, .int sp, .int le, .int la])), (pB, .inl (k.1, 65536, .inl B_60))] := hD
            refine lv_goto (tgt := 137) hx hb d_Mdl_close_108 (by decide) ?_
            refine lv_aload_n hx hb d_Mdl_close_137 rfl (lv_at hl 2 rfl) ?_
            refine kqi (va_runV (As := []) (rest := []) ⟨hx, hb, hml, hown, hts⟩ (c_M_hasLast l hl9 D k h0 pP pO pB pS pK th_3 sz_61 op rw bg lo_57 0 wd rm_58 rg rr pl lm nx av sp le la ) (cwV 0 hts (gV mw_328 mw_329 mw_330 mw_331 mw_332) rfl rfl rfl (by decide +kernel) ⟨(Nat.le_of_ble_eq_true rfl), (Nat.le_of_ble_eq_true rfl)⟩) (kRecv (q := (R_Mdl, T_Mdl, 23)) (q0 := 0) (ci := 9) hK hP rfl rfl (kPreR (wc := [(h0, .inr (9, [.ref pP, .ref pO, .int th_3, .int sz_61, .ref pB, .ref pS, .ref pK, .int op, .int rw, .int bg, .int lo_57, .int 0, .int wd, .int rm_58, .int rg, .int rr, .int pl, .int lm, .int nx, .long av, .int sp, .int le, .int la]))]) hE hK hP hS [0] rfl)) rfl rfl hl.1 rfl (lv_room (Nat.le_of_ble_eq_true rfl)) d_Mdl_close_138 ⟨(Nat.le_of_ble_eq_true rfl), (Nat.le_of_ble_eq_true rfl)⟩) hP hS (fun r65 H locs hw hP hS => ?_)
            replace hw := hw.symm
            subst hw
            refine lv_if_eq (tgt := 171) hx hb d_Mdl_close_141 (by decide) (fun c66 => ?_) (fun c66 => ?_)
            · have hq67 : nI L_59.length ≤ bg := by rw [← hz64.1]; exact mhl_eq c66
              refine lv_aload_n hx hb d_Mdl_close_171 rfl (lv_at hl 2 rfl) ?_
              refine lv_iconst (v := 0) hx hb d_Mdl_close_172 (by decide) ?_
              refine va_put (D := D) (ci := 9) (v := .int 0) (ty := .boolean) (C := R_Mdl) (T := T_Mdl) (N := 23) hx hb hts inw_Mdl ty_Mdl tyok_Mdl nm_Mdl hown hK hP hD hS 0 rfl rfl 7 (by decide) (hts (.fieldLink R_Mdl 33 "LikelyBitsModel" "open" "Z") mw_325) (fun _ h9 => h9) rfl (by decide +kernel) rfl rfl (Nat.le_of_ble_eq_true rfl) d_Mdl_close_173 (fun H locs hP hD hS => ?_)
              have hP : va_P D vwCl [(h0, .inr (9, [.ref pP, .ref pO, .int th_3, .int sz_61, .ref pB, .ref pS, .ref pK, .int 0, .int rw, .int bg, .int lo_57, .int 0, .int wd, .int rm_58, .int rg, .int rr, .int pl, .int lm, .int nx, .long av, .int sp, .int le, .int la])), (pB, .inl (k.1, 65536, .inl B_60))] H := hP
              have hD : va_D A [(h0, .inr (9, [.ref pP, .ref pO, .int th_3, .int sz_61, .ref pB, .ref pS, .ref pK, .int 0, .int rw, .int bg, .int lo_57, .int 0, .int wd, .int rm_58, .int rg, .int rr, .int pl, .int lm, .int nx, .long av, .int sp, .int le, .int la])), (pB, .inl (k.1, 65536, .inl B_60))] := hD
              refine lv_aload_n hx hb d_Mdl_close_176 rfl (lv_at hl 2 rfl) ?_
              refine va_get (D := D) (ci := 9) (v := .int sz_61) (C := R_Mdl) (T := T_Mdl) (N := 23) hx hb hts inw_Mdl hown hK hP 0 rfl rfl 3 (by decide) (hts (.fieldLink R_Mdl 30 "LikelyBitsModel" "size" "I") mw_324) (fun _ h9 => h9) rfl d_Mdl_close_177 ?_
              refine lv_aload_n hx hb d_Mdl_close_180 rfl (lv_at hl 2 rfl) ?_
              refine va_get (D := D) (ci := 9) (v := .int bg) (C := R_Mdl) (T := T_Mdl) (N := 23) hx hb hts inw_Mdl hown hK hP 0 rfl rfl 9 (by decide) (hts (.fieldLink R_Mdl 53 "LikelyBitsModel" "begin" "I") mw_327) (fun _ h9 => h9) rfl d_Mdl_close_181 ?_
              refine lv_isub hx hb d_Mdl_close_184 ?_
              exact kri (wo := wo_M_close k h0 pB pP pO pS pK th sz op rw bg lo cd wd rm rg rr pl lm nx av sp le la B L y) hx hb hr hlk hP hD hS (th_3, 0, lo_57, 0, rm_58, L_59) (B_60, sz_61) (by have e0 := ex12; have e1 := ex13; have e2 := hw47; have e3 := hw55; have e4 := hw63; have hm : mcv lo cd wd rm = (x13 - 32768) := (by rw [mcv, ← e0, ← e1, if_neg c14]); have hB : mcb rw bg lo cd wd rm L y = (lo_57, 0, rm_58, L_59) := (by rw [mcb, if_pos c8, if_pos c9, mc0, hm, mck]; dsimp only; rw [← e2.2, ← e2.1, mc2]; simp only [mpu]; rw [← e3.1, ← e3.2.1, ← e3.2.2, ← e4.1, ← e4.2.1, ← e4.2.2]); have hT : mcD L_59 bg = L_59 := (by rw [mcD, if_pos hq67]); have hRf : row_ok 65536 _ sz_61 L_59 := (by exact hz64); exact ⟨by rw [hc9]; exact hw5.2, fun _ => (by rw [hB]; exact ⟨by rw [hRf.1], rfl, rfl, rfl, rfl, hT.symm⟩), fun h => absurd hq9 h⟩) (by unfold ex_M_close; exact hz64) [0, 1] rfl (by decide) (Nat.le_of_ble_eq_true rfl) (Nat.le_of_ble_eq_true rfl) d_Mdl_close_185
            · have hq68 : ¬ nI L_59.length ≤ bg := by rw [← hz64.1]; exact mhl_ne c66
              have hq68n := mhl_ne c66
              refine lv_aload_n hx hb d_Mdl_close_144 rfl (lv_at hl 2 rfl) ?_
              refine va_get (D := D) (ci := 9) (v := .ref pB) (C := R_Mdl) (T := T_Mdl) (N := 23) hx hb hts inw_Mdl hown hK hP 0 rfl rfl 4 (by decide) (hts (.fieldLink R_Mdl 17 "LikelyBitsModel" "bytes" "[I") mw_333) (fun _ h9 => h9) rfl d_Mdl_close_145 ?_
              refine lv_aload_n hx hb d_Mdl_close_148 rfl (lv_at hl 2 rfl) ?_
              refine va_get (D := D) (ci := 9) (v := .int sz_61) (C := R_Mdl) (T := T_Mdl) (N := 23) hx hb hts inw_Mdl hown hK hP 0 rfl rfl 3 (by decide) (hts (.fieldLink R_Mdl 30 "LikelyBitsModel" "size" "I") mw_324) (fun _ h9 => h9) rfl d_Mdl_close_149 ?_
              refine lv_iconst (v := 1) hx hb d_Mdl_close_152 (by decide) ?_
              refine lv_isub hx hb d_Mdl_close_153 ?_
              refine va_iald hx hb hK hP 1 0 rfl rfl (m_lin hz64 hbg (mhl_ne c66)) d_Mdl_close_154 ?_
              refine lv_sipush (v := 255) hx hb d_Mdl_close_155 (by decide) ?_
              refine lv_icmp_ne (tgt := 171) hx hb d_Mdl_close_158 (by decide) (fun c69 => ?_) (fun c69 => ?_)
              · have hq70 : ¬ mlast L_59 = 255 := fun q => c69 ((m_lv hz64 hbg (mhl_ne c66)).trans q)
                refine lv_aload_n hx hb d_Mdl_close_171 rfl (lv_at hl 2 rfl) ?_
                refine lv_iconst (v := 0) hx hb d_Mdl_close_172 (by decide) ?_
                refine va_put (D := D) (ci := 9) (v := .int 0) (ty := .boolean) (C := R_Mdl) (T := T_Mdl) (N := 23) hx hb hts inw_Mdl ty_Mdl tyok_Mdl nm_Mdl hown hK hP hD hS 0 rfl rfl 7 (by decide) (hts (.fieldLink R_Mdl 33 "LikelyBitsModel" "open" "Z") mw_325) (fun _ h9 => h9) rfl (by decide +kernel) rfl rfl (Nat.le_of_ble_eq_true rfl) d_Mdl_close_173 (fun H locs hP hD hS => ?_)
                have hP : va_P D vwCl [(h0, .inr (9, [.ref pP, .ref pO, .int th_3, .int sz_61, .ref pB, .ref pS, .ref pK, .int 0, .int rw, .int bg, .int lo_57, .int 0, .int wd, .int rm_58, .int rg, .int rr, .int pl, .int lm, .int nx, .long av, .int sp, .int le, .int la])), (pB, .inl (k.1, 65536, .inl B_60))] H := hP
                have hD : va_D A [(h0, .inr (9, [.ref pP, .ref pO, .int th_3, .int sz_61, .ref pB, .ref pS, .ref pK, .int 0, .int rw, .int bg, .int lo_57, .int 0, .int wd, .int rm_58, .int rg, .int rr, .int pl, .int lm, .int nx, .long av, .int sp, .int le, .int la])), (pB, .inl (k.1, 65536, .inl B_60))] := hD
                refine lv_aload_n hx hb d_Mdl_close_176 rfl (lv_at hl 2 rfl) ?_
                refine va_get (D := D) (ci := 9) (v := .int sz_61) (C := R_Mdl) (T := T_Mdl) (N := 23) hx hb hts inw_Mdl hown hK hP 0 rfl rfl 3 (by decide) (hts (.fieldLink R_Mdl 30 "LikelyBitsModel" "size" "I") mw_324) (fun _ h9 => h9) rfl d_Mdl_close_177 ?_
                refine lv_aload_n hx hb d_Mdl_close_180 rfl (lv_at hl 2 rfl) ?_
                refine va_get (D := D) (ci := 9) (v := .int bg) (C := R_Mdl) (T := T_Mdl) (N := 23) hx hb hts inw_Mdl hown hK hP 0 rfl rfl 9 (by decide) (hts (.fieldLink R_Mdl 53 "LikelyBitsModel" "begin" "I") mw_327) (fun _ h9 => h9) rfl d_Mdl_close_181 ?_
                refine lv_isub hx hb d_Mdl_close_184 ?_
                exact kri (wo := wo_M_close k h0 pB pP pO pS pK th sz op rw bg lo cd wd rm rg rr pl lm nx av sp le la B L y) hx hb hr hlk hP hD hS (th_3, 0, lo_57, 0, rm_58, L_59) (B_60, sz_61) (by have e0 := ex12; have e1 := ex13; have e2 := hw47; have e3 := hw55; have e4 := hw63; have hm : mcv lo cd wd rm = (x13 - 32768) := (by rw [mcv, ← e0, ← e1, if_neg c14]); have hB : mcb rw bg lo cd wd rm L y = (lo_57, 0, rm_58, L_59) := (by rw [mcb, if_pos c8, if_pos c9, mc0, hm, mck]; dsimp only; rw [← e2.2, ← e2.1, mc2]; simp only [mpu]; rw [← e3.1, ← e3.2.1, ← e3.2.2, ← e4.1, ← e4.2.1, ← e4.2.2]); have hT : mcD L_59 bg = L_59 := (by rw [mcD, if_neg hq68, if_neg hq70]); have hRf : row_ok 65536 _ sz_61 L_59 := (by exact hz64); exact ⟨by rw [hc9]; exact hw5.2, fun _ => (by rw [hB]; exact ⟨by rw [hRf.1], rfl, rfl, rfl, rfl, hT.symm⟩), fun h => absurd hq9 h⟩) (by unfold ex_M_close; exact hz64) [0, 1] rfl (by decide) (Nat.le_of_ble_eq_true rfl) (Nat.le_of_ble_eq_true rfl) d_Mdl_close_185
              · have hq71 : mlast L_59 = 255 := (m_lv hz64 hbg (mhl_ne c66)).symm.trans c69
                refine lv_aload_n hx hb d_Mdl_close_161 rfl (lv_at hl 2 rfl) ?_
                refine lv_dup hx hb d_Mdl_close_162 rfl ?_
                refine va_get (D := D) (ci := 9) (v := .int sz_61) (C := R_Mdl) (T := T_Mdl) (N := 23) hx hb hts inw_Mdl hown hK hP 0 rfl rfl 3 (by decide) (hts (.fieldLink R_Mdl 30 "LikelyBitsModel" "size" "I") mw_324) (fun _ h9 => h9) rfl d_Mdl_close_163 ?_
                refine lv_iconst (v := 1) hx hb d_Mdl_close_166 (by decide) ?_
                refine lv_isub hx hb d_Mdl_close_167 ?_
                refine lv_topi (fun x72 ex72 => ?_)
                refine va_put (D := D) (ci := 9) (v := .int x72) (ty := .int) (C := R_Mdl) (T := T_Mdl) (N := 23) hx hb hts inw_Mdl ty_Mdl tyok_Mdl nm_Mdl hown hK hP hD hS 0 rfl rfl 3 (by decide) (hts (.fieldLink R_Mdl 30 "LikelyBitsModel" "size" "I") mw_324) (fun _ h9 => h9) rfl (by decide +kernel) rfl rfl (Nat.le_of_ble_eq_true rfl) d_Mdl_close_168 (fun H locs hP hD hS => ?_)
                have hP : va_P D vwCl [(h0, .inr (9, [.ref pP, .ref pO, .int th_3, .int x72, .ref pB, .ref pS, .ref pK, .int op, .int rw, .int bg, .int lo_57, .int 0, .int wd, .int rm_58, .int rg, .int rr, .int pl, .int lm, .int nx, .long av, .int sp, .int le, .int la])), (pB, .inl (k.1, 65536, .inl B_60))] H := hP
                have hD : va_D A [(h0, .inr (9, [.ref pP, .ref pO, .int th_3, .int x72, .ref pB, .ref pS, .ref pK, .int op, .int rw, .int bg, .int lo_57, .int 0, .int wd, .int rm_58, .int rg, .int rr, .int pl, .int lm, .int nx, .long av, .int sp, .int le, .int la])), (pB, .inl (k.1, 65536, .inl B_60))] := hD
                refine lv_aload_n hx hb d_Mdl_close_171 rfl (lv_at hl 2 rfl) ?_
                refine lv_iconst (v := 0) hx hb d_Mdl_close_172 (by decide) ?_
                refine va_put (D := D) (ci := 9) (v := .int 0) (ty := .boolean) (C := R_Mdl) (T := T_Mdl) (N := 23) hx hb hts inw_Mdl ty_Mdl tyok_Mdl nm_Mdl hown hK hP hD hS 0 rfl rfl 7 (by decide) (hts (.fieldLink R_Mdl 33 "LikelyBitsModel" "open" "Z") mw_325) (fun _ h9 => h9) rfl (by decide +kernel) rfl rfl (Nat.le_of_ble_eq_true rfl) d_Mdl_close_173 (fun H locs hP hD hS => ?_)
                have hP : va_P D vwCl [(h0, .inr (9, [.ref pP, .ref pO, .int th_3, .int x72, .ref pB, .ref pS, .ref pK, .int 0, .int rw, .int bg, .int lo_57, .int 0, .int wd, .int rm_58, .int rg, .int rr, .int pl, .int lm, .int nx, .long av, .int sp, .int le, .int la])), (pB, .inl (k.1, 65536, .inl B_60))] H := hP
                have hD : va_D A [(h0, .inr (9, [.ref pP, .ref pO, .int th_3, .int x72, .ref pB, .ref pS, .ref pK, .int 0, .int rw, .int bg, .int lo_57, .int 0, .int wd, .int rm_58, .int rg, .int rr, .int pl, .int lm, .int nx, .long av, .int sp, .int le, .int la])), (pB, .inl (k.1, 65536, .inl B_60))] := hD
                refine lv_aload_n hx hb d_Mdl_close_176 rfl (lv_at hl 2 rfl) ?_
                refine va_get (D := D) (ci := 9) (v := .int x72) (C := R_Mdl) (T := T_Mdl) (N := 23) hx hb hts inw_Mdl hown hK hP 0 rfl rfl 3 (by decide) (hts (.fieldLink R_Mdl 30 "LikelyBitsModel" "size" "I") mw_324) (fun _ h9 => h9) rfl d_Mdl_close_177 ?_
                refine lv_aload_n hx hb d_Mdl_close_180 rfl (lv_at hl 2 rfl) ?_
                refine va_get (D := D) (ci := 9) (v := .int bg) (C := R_Mdl) (T := T_Mdl) (N := 23) hx hb hts inw_Mdl hown hK hP 0 rfl rfl 9 (by decide) (hts (.fieldLink R_Mdl 53 "LikelyBitsModel" "begin" "I") mw_327) (fun _ h9 => h9) rfl d_Mdl_close_181 ?_
                refine lv_isub hx hb d_Mdl_close_184 ?_
                exact kri (wo := wo_M_close k h0 pB pP pO pS pK th sz op rw bg lo cd wd rm rg rr pl lm nx av sp le la B L y) hx hb hr hlk hP hD hS (th_3, 0, lo_57, 0, rm_58, L_59.dropLast) (B_60, x72) (by have e0 := ex12; have e1 := ex13; have e2 := hw47; have e3 := hw55; have e4 := hw63; have hm : mcv lo cd wd rm = (x13 - 32768) := (by rw [mcv, ← e0, ← e1, if_neg c14]); have hB : mcb rw bg lo cd wd rm L y = (lo_57, 0, rm_58, L_59) := (by rw [mcb, if_pos c8, if_pos c9, mc0, hm, mck]; dsimp only; rw [← e2.2, ← e2.1, mc2]; simp only [mpu]; rw [← e3.1, ← e3.2.1, ← e3.2.2, ← e4.1, ← e4.2.1, ← e4.2.2]); have hT : mcD L_59 bg = L_59.dropLast := (by rw [mcD, if_neg hq68, if_pos hq71]); have hRf : row_ok 65536 _ x72 L_59.dropLast := (by rw [ex72]; exact (m_drop hz64 hbg (mhl_ne c66))); exact ⟨by rw [hc9]; exact hw5.2, fun _ => (by rw [hB]; exact ⟨by rw [hRf.1], rfl, rfl, rfl, rfl, hT.symm⟩), fun h => absurd hq9 h⟩) (by unfold ex_M_close; rw [ex72]; exact (m_drop hz64 hbg (mhl_ne c66))) [0, 1] rfl (by decide) (Nat.le_of_ble_eq_true rfl) (Nat.le_of_ble_eq_true rfl) d_Mdl_close_185
      · refine lv_iconst (v := 0) hx hb d_Mdl_close_35 (by decide) ?_
        refine lv_istore_n (lv' := [(2, .int 0), (0, .ref h0), (1, .int y)]) hx hb d_Mdl_close_36 rfl hl (by decide) rfl (fun ls hl => ?_)
        exact lp_M_close_37 l hl9 D k h0 pB pP pO pS pK th sz op rw bg lo cd wd rm rg rr pl lm nx av sp le la B L y Cc9 hA 8 0 th_3 rm B sz L hM hbg (by rw [hc9] at hq9 ⊢; exact ⟨hw5.2, hq9⟩) c8 rfl (hv9.2 c8).1 (hv9.2 c8).2 (Nat.le_refl _) H _ _ _ ⟨rfl, rfl⟩ (ka_P hP (is := [1, 0]) rfl) (hD.sub [1, 0] (by decide) rfl) hS ls (lv_sub hl [0, 1] rfl)
    · have hc9 : mcx op y = mth 0 (mot y 0 1) 0 := by simp [mcx, c1]
      have hq9 := mtb_n (hw5.1 ▸ c7)
      rw [← hc9] at hq9
      refine lv_iconst (v := 0) hx hb d_Mdl_close_26 (by decide) ?_
      exact kri (wo := wo_M_close k h0 pB pP pO pS pK th sz op rw bg lo cd wd rm rg rr pl lm nx av sp le la B L y) hx hb hr hlk hP hD hS (th_3, op, lo, cd, rm, L) (B, sz) ⟨by rw [hc9]; exact hw5.2, fun h => absurd h hq9, fun _ => ⟨rfl, rfl, rfl, rfl, rfl, rfl⟩⟩ (by unfold ex_M_close; exact hM) [1, 0] rfl (by decide) (Nat.le_of_ble_eq_true rfl) (Nat.le_of_ble_eq_true rfl) d_Mdl_close_27
  · refine lv_iconst (v := 1) hx hb d_Mdl_close_8 (by decide) ?_
    refine lv_goto (tgt := 13) hx hb d_Mdl_close_9 (by decide) ?_
    refine lv_iload_n hx hb d_Mdl_close_13 rfl (lv_at hl 1 rfl) ?_
    refine lv_iconst (v := 0) hx hb d_Mdl_close_14 (by decide) ?_
    refine lv_iconst (v := 1) hx hb d_Mdl_close_15 (by decide) ?_
    refine kqi (va_runS (As := [.int y, .int 0, .int 1]) (rest := [.int 1, .ref h0]) ⟨hx, hb, hml, hown, hts⟩ (c_M_out l hl9 D k  y 0 1 ) (cwS 3 hts (gS mw_368 mw_369 mw_331 mw_370) rfl rfl rfl (by decide +kernel) ⟨(Nat.le_of_ble_eq_true rfl), (Nat.le_of_ble_eq_true rfl)⟩) (kPreR (wc := []) hE hK hP hS [] rfl) rfl rfl hl.1 rfl (lv_room (Nat.le_of_ble_eq_true rfl)) d_Mdl_close_16 ⟨(Nat.le_of_ble_eq_true rfl), (Nat.le_of_ble_eq_true rfl)⟩) hP hS (fun r73 H locs hw hP hS => ?_)
    replace hw := hw.symm
    subst hw
    refine lv_iconst (v := 0) hx hb d_Mdl_close_19 (by decide) ?_
    refine kci (wc := [(h0, .inr (9, [.ref pP, .ref pO, .int th, .int sz, .ref pB, .ref pS, .ref pK, .int op, .int rw, .int bg, .int lo, .int cd, .int wd, .int rm, .int rg, .int rr, .int pl, .int lm, .int nx, .long av, .int sp, .int le, .int la]))]) (wr := [(pB, .inl (k.1, 65536, .inl B))]) (va_runV (As := [.int 1, .int (mot y 0 1), .int 0]) (rest := []) ⟨hx, hb, hml, hown, hts⟩ (c_M_throwing l hl9 D k h0 H.size pP pO pB pS pK th sz op rw bg lo cd wd rm rg rr pl lm nx av sp le la 1 (mot y 0 1) 0 ) (cwV 3 hts (gV mw_372 mw_373 mw_374 mw_331 mw_375) rfl rfl rfl (by decide +kernel) ⟨(Nat.le_of_ble_eq_true rfl), (Nat.le_of_ble_eq_true rfl)⟩) (kRecv (q := (R_Mdl, T_Mdl, 23)) (q0 := 0) (ci := 9) hK hP rfl rfl (kPre (wc := [(h0, .inr (9, [.ref pP, .ref pO, .int th, .int sz, .ref pB, .ref pS, .ref pK, .int op, .int rw, .int bg, .int lo, .int cd, .int wd, .int rm, .int rg, .int rr, .int pl, .int lm, .int nx, .long av, .int sp, .int le, .int la]))]) hE hK hP hD hS hA [0] rfl (by decide))) rfl rfl hl.1 rfl (lv_room (Nat.le_of_ble_eq_true rfl)) d_Mdl_close_20 ⟨(Nat.le_of_ble_eq_true rfl), (Nat.le_of_ble_eq_true rfl)⟩) hP hD hS hA [0] [1] rfl rfl (by decide) (by decide) (fun r75 zz uu H locs hw76 hz77 hP hD hS => ?_)
    obtain ⟨th_74, rfl⟩ : ∃ y, y = uu := ⟨_, rfl⟩
    have hw76 : r75 = mtb 1 (mot y 0 1) 0 ∧ th_74 = mth 1 (mot y 0 1) 0 := hw76
    have hP : va_P D vwCl [(pB, .inl (k.1, 65536, .inl B)), (h0, .inr (9, [.ref pP, .ref pO, .int th_74, .int sz, .ref pB, .ref pS, .ref pK, .int op, .int rw, .int bg, .int lo, .int cd, .int wd, .int rm, .int rg, .int rr, .int pl, .int lm, .int nx, .long av, .int sp, .int le, .int la]))] H := hP
    have hD : va_D A [(pB, .inl (k.1, 65536, .inl B)), (h0, .inr (9, [.ref pP, .ref pO, .int th_74, .int sz, .ref pB, .ref pS, .ref pK, .int op, .int rw, .int bg, .int lo, .int cd, .int wd, .int rm, .int rg, .int rr, .int pl, .int lm, .int nx, .long av, .int sp, .int le, .int la]))] := hD
    refine lv_if_eq (tgt := 28) hx hb d_Mdl_close_23 (by decide) (fun c78 => ?_) (fun c78 => ?_)
    · exact absurd (mth_0 (mtb_0 (hw76.1 ▸ c78))).1 (by decide)
    · have hc9 : mcx op y = mth 1 (mot y 0 1) 0 := by simp [mcx, c1]
      have hq9 := mtb_n (hw76.1 ▸ c78)
      rw [← hc9] at hq9
      refine lv_iconst (v := 0) hx hb d_Mdl_close_26 (by decide) ?_
      exact kri (wo := wo_M_close k h0 pB pP pO pS pK th sz op rw bg lo cd wd rm rg rr pl lm nx av sp le la B L y) hx hb hr hlk hP hD hS (th_74, op, lo, cd, rm, L) (B, sz) ⟨by rw [hc9]; exact hw76.2, fun h => absurd h hq9, fun _ => ⟨rfl, rfl, rfl, rfl, rfl, rfl⟩⟩ (by unfold ex_M_close; exact hM) [1, 0] rfl (by decide) (Nat.le_of_ble_eq_true rfl) (Nat.le_of_ble_eq_true rfl) d_Mdl_close_27

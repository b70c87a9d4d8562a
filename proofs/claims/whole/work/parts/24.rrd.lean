set_option maxRecDepth 20000 in
theorem mw_176 : (Cond.methodLink R_RRd 3 objectInit) ∈ AW := inAW (List.mem_append_right _ (show _ ∈ tables_1_1 ++ (tables_1_2 ++ (tables_1_3 ++ tables_1_4)) from (List.mem_append_left _ (List.mem_of_getElem? (i := 159) rfl)))) rfl
set_option maxRecDepth 20000 in
theorem mw_177 : (Cond.fieldLink R_RRd 9 "LikelyBits$RawReader" "source" "LLikelyBits$Source;") ∈ AW := inAW (List.mem_append_right _ (show _ ∈ tables_1_1 ++ (tables_1_2 ++ (tables_1_3 ++ tables_1_4)) from (List.mem_append_left _ (List.mem_of_getElem? (i := 160) rfl)))) rfl
set_option maxRecDepth 20000 in
theorem mw_178 : (Cond.fieldLink R_RRd 15 "LikelyBits$RawReader" "last" "I") ∈ AW := inAW (List.mem_append_right _ (show _ ∈ tables_1_1 ++ (tables_1_2 ++ (tables_1_3 ++ tables_1_4)) from (List.mem_append_left _ (List.mem_of_getElem? (i := 161) rfl)))) rfl
set_option maxRecDepth 20000 in
theorem mw_179 : (Cond.fieldLink R_RRd 19 "LikelyBits$RawReader" "left" "I") ∈ AW := inAW (List.mem_append_right _ (show _ ∈ tables_1_1 ++ (tables_1_2 ++ (tables_1_3 ++ tables_1_4)) from (List.mem_append_left _ (List.mem_of_getElem? (i := 162) rfl)))) rfl
set_option maxRecDepth 20000 in
theorem mw_180 : (Cond.methodLink R_RRd 22 y_Src_take) ∈ AW := inAW (List.mem_append_right _ (show _ ∈ tables_1_1 ++ (tables_1_2 ++ (tables_1_3 ++ tables_1_4)) from (List.mem_append_right _ (List.mem_append_right _ (List.mem_append_left _ (List.mem_of_getElem? (i := 153) rfl)))))) rfl
def wo_RRd_init (k : gK) (h0 : Nat) (qs : Nat) (zz : Unit) (uu : Unit) : va_W := match zz, uu with
  | _, _ => [(h0, .inr (7, [.ref qs, .int 0, .int 0]))]
def ex_RRd_init (k : gK) (h0 : Nat) (qs : Nat) (zz : Unit) (uu : Unit) : Prop := match zz, uu with
  | _, _ => True
def po_RRd_init (k : gK) (h0 : Nat) (qs : Nat) (uu : Unit) : Prop := match uu with
  | _ => True
def qc_RRd_init (D : va_G) (k : gK) (h0 : Nat) (qs : Nat) (A : Nat → Prop) : Array Value → State → Outcome → State → Prop := va_Qv (po_RRd_init k h0 qs) (fun uu t => ∃ zz, ex_RRd_init k h0 qs zz uu ∧ GP D A (wo_RRd_init k h0 qs zz uu) t) A
set_option maxHeartbeats 1000000 in
set_option maxRecDepth 100000 in
theorem c_RRd_init (l : Launch) (hl9 : l.stackTraces = false) (D : va_G) (k : gK) (h0 : Nat) (zsz : Nat) (qs : Nat) : Met l y_RRd_init (.code y_RRd_init b_RRd_init 2 none :: AW) ({ frames := 1, cells := 0, slots := 0, locals := 22 }) (va_Pc [.ref h0, .ref qs] (GG D k [(h0, .inr (7, [.null, .int 0, .int 0]))] zsz)) (qc_RRd_init D k h0 qs (va_A [(h0, .inr (7, [.null, .int 0, .int 0]))] zsz)) 0 0 (va_A [(h0, .inr (7, [.null, .int 0, .int 0]))] zsz) := by
  refine kMet (ws := [(h0, .inr (7, [.null, .int 0, .int 0]))]) (Qc := qc_RRd_init D k h0 qs) (by decide) (Nat.le_of_ble_eq_true rfl) (fun p e s m below meth c ls A H Cc hP hD hA hS hl => ?_)
  obtain ⟨hx, hb, hml, hr, hlk, hown, hts, hK, hE, hin⟩ := Cc
  have hl : lv_has ls 2 [(0, .ref h0), (1, .ref qs)] := hl
  refine lv_aload_n hx hb d_RRd_init_0 rfl (lv_at hl 0 rfl) ?_
  refine W.objInit hx hb hown (hts (.methodLink R_RRd 3 objectInit) mw_176) (hts (.instanceMethod objectInit) mw_3) (hts (.code objectInit ⟨#[0xb1]⟩ 1 none) mw_4) rfl (by rw [hml]; exact hl.1) rfl d_RRd_init_1 (Nat.le_of_ble_eq_true rfl) (Nat.le_of_ble_eq_true rfl) ?_
  refine W.eq (g2 := F0 m 4 ls []) rfl ?_
  refine lv_aload_n hx hb d_RRd_init_4 rfl (lv_at hl 0 rfl) ?_
  refine lv_aload_n hx hb d_RRd_init_5 rfl (lv_at hl 1 rfl) ?_
  refine va_putF (D := D) (ci := 7) (v := .ref qs) (ty := .object "LikelyBits$Source") (C := R_RRd) (T := T_RRd) (N := 3) hx hb hts inw_RRd ty_RRd tyok_RRd nm_RRd hown hK hP hD hS 0 rfl rfl 0 (by decide) (hts (.fieldLink R_RRd 9 "LikelyBits$RawReader" "source" "LLikelyBits$Source;") mw_177) (fun _ h9 => h9) rfl hin rfl (by decide +kernel) rfl rfl (Nat.le_of_ble_eq_true rfl) d_RRd_init_6 (fun H locs hP hD hS => ?_)
  have hP : va_P D vwCl [(h0, .inr (7, [.ref qs, .int 0, .int 0]))] H := hP
  have hD : va_D A [(h0, .inr (7, [.ref qs, .int 0, .int 0]))] := hD
  exact krv (wo := wo_RRd_init k h0 qs) hx hb hr hlk hP hD hS () () trivial trivial [0] rfl (by decide) (Nat.le_of_ble_eq_true rfl) (Nat.le_of_ble_eq_true rfl) d_RRd_init_9

def wo_RRd_begin (k : gK) (h0 : Nat) (qs : Nat) (la : Int32) (le : Int32) (zz : Unit) (uu : Unit) : va_W := match zz, uu with
  | _, _ => [(h0, .inr (7, [.ref qs, .int 0, .int 0]))]
def ex_RRd_begin (k : gK) (h0 : Nat) (qs : Nat) (la : Int32) (le : Int32) (zz : Unit) (uu : Unit) : Prop := match zz, uu with
  | _, _ => True
def po_RRd_begin (k : gK) (h0 : Nat) (qs : Nat) (la : Int32) (le : Int32) (uu : Unit) : Prop := match uu with
  | _ => True
def qc_RRd_begin (D : va_G) (k : gK) (h0 : Nat) (qs : Nat) (la : Int32) (le : Int32) (A : Nat → Prop) : Array Value → State → Outcome → State → Prop := va_Qv (po_RRd_begin k h0 qs la le) (fun uu t => ∃ zz, ex_RRd_begin k h0 qs la le zz uu ∧ GP D A (wo_RRd_begin k h0 qs la le zz uu) t) A
set_option maxHeartbeats 1000000 in
set_option maxRecDepth 100000 in
theorem c_RRd_begin (l : Launch) (hl9 : l.stackTraces = false) (D : va_G) (k : gK) (h0 : Nat) (zsz : Nat) (qs : Nat) (la : Int32) (le : Int32) : Met l y_RRd_begin (.code y_RRd_begin b_RRd_begin 1 none :: AW) ({ frames := 0, cells := 0, slots := 0, locals := 0 }) (va_Pc [.ref h0] (GG D k [(h0, .inr (7, [.ref qs, .int la, .int le]))] zsz)) (qc_RRd_begin D k h0 qs la le (va_A [(h0, .inr (7, [.ref qs, .int la, .int le]))] zsz)) 0 0 (va_A [(h0, .inr (7, [.ref qs, .int la, .int le]))] zsz) := by
  refine kMet (ws := [(h0, .inr (7, [.ref qs, .int la, .int le]))]) (Qc := qc_RRd_begin D k h0 qs la le) (by decide) (Nat.le_of_ble_eq_true rfl) (fun p e s m below meth c ls A H Cc hP hD hA hS hl => ?_)
  obtain ⟨hx, hb, hml, hr, hlk, hown, hts, hK, hE, hin⟩ := Cc
  have hl : lv_has ls 1 [(0, .ref h0)] := hl
  refine lv_aload_n hx hb d_RRd_begin_0 rfl (lv_at hl 0 rfl) ?_
  refine lv_iconst (v := 0) hx hb d_RRd_begin_1 (by decide) ?_
  refine va_put (D := D) (ci := 7) (v := .int 0) (ty := .int) (C := R_RRd) (T := T_RRd) (N := 3) hx hb hts inw_RRd ty_RRd tyok_RRd nm_RRd hown hK hP hD hS 0 rfl rfl 1 (by decide) (hts (.fieldLink R_RRd 15 "LikelyBits$RawReader" "last" "I") mw_178) (fun _ h9 => h9) rfl (by decide +kernel) rfl rfl (Nat.le_of_ble_eq_true rfl) d_RRd_begin_2 (fun H locs hP hD hS => ?_)
  have hP : va_P D vwCl [(h0, .inr (7, [.ref qs, .int 0, .int le]))] H := hP
  have hD : va_D A [(h0, .inr (7, [.ref qs, .int 0, .int le]))] := hD
  refine lv_aload_n hx hb d_RRd_begin_5 rfl (lv_at hl 0 rfl) ?_
  refine lv_iconst (v := 0) hx hb d_RRd_begin_6 (by decide) ?_
  refine va_put (D := D) (ci := 7) (v := .int 0) (ty := .int) (C := R_RRd) (T := T_RRd) (N := 3) hx hb hts inw_RRd ty_RRd tyok_RRd nm_RRd hown hK hP hD hS 0 rfl rfl 2 (by decide) (hts (.fieldLink R_RRd 19 "LikelyBits$RawReader" "left" "I") mw_179) (fun _ h9 => h9) rfl (by decide +kernel) rfl rfl (Nat.le_of_ble_eq_true rfl) d_RRd_begin_7 (fun H locs hP hD hS => ?_)
  have hP : va_P D vwCl [(h0, .inr (7, [.ref qs, .int 0, .int 0]))] H := hP
  have hD : va_D A [(h0, .inr (7, [.ref qs, .int 0, .int 0]))] := hD
  exact krv (wo := wo_RRd_begin k h0 qs la le) hx hb hr hlk hP hD hS () () trivial trivial [0] rfl (by decide) (Nat.le_of_ble_eq_true rfl) (Nat.le_of_ble_eq_true rfl) d_RRd_begin_10

def wo_RRd_nextBit (k : gK) (h0 qs qr qa : Nat) (la : Int32) (le : Int32) (pl : Int32) (ln : Int32) (cm : Int32) (n : Nat) (f : Nat → Int32) (u : Int32) (L : List Int32) (zz : Unit) (uu : Int32 × Int32 × Int32) : va_W := match zz, uu with
  | _, (la2, le2, cm2) => [(h0, .inr (7, [.ref qs, .int la2, .int le2])), (qs, .inr (3, [.ref qr, .int pl, .int ln, .int cm2])), (qr, .inr (0, [.ref qa, .int u])), (qa, .inl (k.1, n, .inl f))]
def ex_RRd_nextBit (k : gK) (h0 qs qr qa : Nat) (la : Int32) (le : Int32) (pl : Int32) (ln : Int32) (cm : Int32) (n : Nat) (f : Nat → Int32) (u : Int32) (L : List Int32) (zz : Unit) (uu : Int32 × Int32 × Int32) : Prop := match zz, uu with
  | _, (la2, le2, cm2) => True
def po_RRd_nextBit (k : gK) (h0 qs qr qa : Nat) (la : Int32) (le : Int32) (pl : Int32) (ln : Int32) (cm : Int32) (n : Nat) (f : Nat → Int32) (u : Int32) (L : List Int32) (r : Int32) (uu : Int32 × Int32 × Int32) : Prop := match uu with
  | (la2, le2, cm2) => r = (rrb L pl ln la le cm).1 ∧ la2 = (rrb L pl ln la le cm).2.1 ∧ le2 = (rrb L pl ln la le cm).2.2.1 ∧ cm2 = (rrb L pl ln la le cm).2.2.2
def qc_RRd_nextBit (D : va_G) (k : gK) (h0 qs qr qa : Nat) (la : Int32) (le : Int32) (pl : Int32) (ln : Int32) (cm : Int32) (n : Nat) (f : Nat → Int32) (u : Int32) (L : List Int32) (A : Nat → Prop) : Array Value → State → Outcome → State → Prop := va_Qi (po_RRd_nextBit k h0 qs qr qa la le pl ln cm n f u L) (fun uu t => ∃ zz, ex_RRd_nextBit k h0 qs qr qa la le pl ln cm n f u L zz uu ∧ GP D A (wo_RRd_nextBit k h0 qs qr qa la le pl ln cm n f u L zz uu) t) A
set_option maxHeartbeats 1000000 in
set_option maxRecDepth 100000 in
theorem c_RRd_nextBit (l : Launch) (hl9 : l.stackTraces = false) (D : va_G) (k : gK) (h0 qs qr qa : Nat) (zsz : Nat) (la : Int32) (le : Int32) (pl : Int32) (ln : Int32) (cm : Int32) (n : Nat) (f : Nat → Int32) (u : Int32) (L : List Int32) (hR : row_ok n f u L) : Met l y_RRd_nextBit (.code y_RRd_nextBit b_RRd_nextBit 1 (some .int) :: AW) ({ frames := 3, cells := 0, slots := 0, locals := 62 }) (va_Pc [.ref h0] (GG D k [(h0, .inr (7, [.ref qs, .int la, .int le])), (qs, .inr (3, [.ref qr, .int pl, .int ln, .int cm])), (qr, .inr (0, [.ref qa, .int u])), (qa, .inl (k.1, n, .inl f))] zsz)) (qc_RRd_nextBit D k h0 qs qr qa la le pl ln cm n f u L (va_A [(h0, .inr (7, [.ref qs, .int la, .int le])), (qs, .inr (3, [.ref qr, .int pl, .int ln, .int cm])), (qr, .inr (0, [.ref qa, .int u])), (qa, .inl (k.1, n, .inl f))] zsz)) 0 0 (va_A [(h0, .inr (7, [.ref qs, .int la, .int le])), (qs, .inr (3, [.ref qr, .int pl, .int ln, .int cm])), (qr, .inr (0, [.ref qa, .int u])), (qa, .inl (k.1, n, .inl f))] zsz) := by
  refine kMet (ws := [(h0, .inr (7, [.ref qs, .int la, .int le])), (qs, .inr (3, [.ref qr, .int pl, .int ln, .int cm])), (qr, .inr (0, [.ref qa, .int u])), (qa, .inl (k.1, n, .inl f))]) (Qc := qc_RRd_nextBit D k h0 qs qr qa la le pl ln cm n f u L) (by decide) (Nat.le_of_ble_eq_true rfl) (fun p e s m below meth c ls A H Cc hP hD hA hS hl => ?_)
  obtain ⟨hx, hb, hml, hr, hlk, hown, hts, hK, hE, hin⟩ := Cc
  have hl : lv_has ls 1 [(0, .ref h0)] := hl
  refine lv_aload_n hx hb d_RRd_nextBit_0 rfl (lv_at hl 0 rfl) ?_
  refine va_get (D := D) (ci := 7) (v := .int le) (C := R_RRd) (T := T_RRd) (N := 3) hx hb hts inw_RRd hown hK hP 0 rfl rfl 2 (by decide) (hts (.fieldLink R_RRd 19 "LikelyBits$RawReader" "left" "I") mw_179) (fun _ h9 => h9) rfl d_RRd_nextBit_1 ?_
  refine lv_if_ne (tgt := 39) hx hb d_RRd_nextBit_4 (by decide) (fun c1 => ?_) (fun c1 => ?_)
  · refine lv_aload_n hx hb d_RRd_nextBit_39 rfl (lv_at hl 0 rfl) ?_
    refine lv_dup hx hb d_RRd_nextBit_40 rfl ?_
    refine va_get (D := D) (ci := 7) (v := .int le) (C := R_RRd) (T := T_RRd) (N := 3) hx hb hts inw_RRd hown hK hP 0 rfl rfl 2 (by decide) (hts (.fieldLink R_RRd 19 "LikelyBits$RawReader" "left" "I") mw_179) (fun _ h9 => h9) rfl d_RRd_nextBit_41 ?_
    refine lv_iconst (v := 1) hx hb d_RRd_nextBit_44 (by decide) ?_
    refine lv_isub hx hb d_RRd_nextBit_45 ?_
    refine lv_topi (fun x2 ex2 => ?_)
    refine va_put (D := D) (ci := 7) (v := .int x2) (ty := .int) (C := R_RRd) (T := T_RRd) (N := 3) hx hb hts inw_RRd ty_RRd tyok_RRd nm_RRd hown hK hP hD hS 0 rfl rfl 2 (by decide) (hts (.fieldLink R_RRd 19 "LikelyBits$RawReader" "left" "I") mw_179) (fun _ h9 => h9) rfl (by decide +kernel) rfl rfl (Nat.le_of_ble_eq_true rfl) d_RRd_nextBit_46 (fun H locs hP hD hS => ?_)
    have hP : va_P D vwCl [(h0, .inr (7, [.ref qs, .int la, .int x2])), (qs, .inr (3, [.ref qr, .int pl, .int ln, .int cm])), (qr, .inr (0, [.ref qa, .int u])), (qa, .inl (k.1, n, .inl f))] H := hP
    have hD : va_D A [(h0, .inr (7, [.ref qs, .int la, .int x2])), (qs, .inr (3, [.ref qr, .int pl, .int ln, .int cm])), (qr, .inr (0, [.ref qa, .int u])), (qa, .inl (k.1, n, .inl f))] := hD
    refine lv_aload_n hx hb d_RRd_nextBit_49 rfl (lv_at hl 0 rfl) ?_
    refine va_get (D := D) (ci := 7) (v := .int la) (C := R_RRd) (T := T_RRd) (N := 3) hx hb hts inw_RRd hown hK hP 0 rfl rfl 1 (by decide) (hts (.fieldLink R_RRd 15 "LikelyBits$RawReader" "last" "I") mw_178) (fun _ h9 => h9) rfl d_RRd_nextBit_50 ?_
    refine lv_aload_n hx hb d_RRd_nextBit_53 rfl (lv_at hl 0 rfl) ?_
    refine va_get (D := D) (ci := 7) (v := .int x2) (C := R_RRd) (T := T_RRd) (N := 3) hx hb hts inw_RRd hown hK hP 0 rfl rfl 2 (by decide) (hts (.fieldLink R_RRd 19 "LikelyBits$RawReader" "left" "I") mw_179) (fun _ h9 => h9) rfl d_RRd_nextBit_54 ?_
    refine lv_iushr (v := jushr la x2) hx hb d_RRd_nextBit_57 rfl ?_
    refine lv_iconst (v := 1) hx hb d_RRd_nextBit_58 (by decide) ?_
    refine lv_iand hx hb d_RRd_nextBit_59 ?_
    exact kri (wo := wo_RRd_nextBit k h0 qs qr qa la le pl ln cm n f u L) hx hb hr hlk hP hD hS (la, x2, cm) () (by subst ex2; simp [po_RRd_nextBit, rrb, rrb2, c1]) trivial [0, 1, 2, 3] rfl (by decide) (Nat.le_of_ble_eq_true rfl) (Nat.le_of_ble_eq_true rfl) d_RRd_nextBit_60
  · refine lv_aload_n hx hb d_RRd_nextBit_7 rfl (lv_at hl 0 rfl) ?_
    refine lv_aload_n hx hb d_RRd_nextBit_8 rfl (lv_at hl 0 rfl) ?_
    refine va_get (D := D) (ci := 7) (v := .int la) (C := R_RRd) (T := T_RRd) (N := 3) hx hb hts inw_RRd hown hK hP 0 rfl rfl 1 (by decide) (hts (.fieldLink R_RRd 15 "LikelyBits$RawReader" "last" "I") mw_178) (fun _ h9 => h9) rfl d_RRd_nextBit_9 ?_
    refine lv_sipush (v := 255) hx hb d_RRd_nextBit_12 (by decide) ?_
    refine lv_icmp_ne (tgt := 23) hx hb d_RRd_nextBit_15 (by decide) (fun c3 => ?_) (fun c3 => ?_)
    · refine lv_bipush (v := 8) hx hb d_RRd_nextBit_23 (by decide) ?_
      refine va_put (D := D) (ci := 7) (v := .int 8) (ty := .int) (C := R_RRd) (T := T_RRd) (N := 3) hx hb hts inw_RRd ty_RRd tyok_RRd nm_RRd hown hK hP hD hS 0 rfl rfl 2 (by decide) (hts (.fieldLink R_RRd 19 "LikelyBits$RawReader" "left" "I") mw_179) (fun _ h9 => h9) rfl (by decide +kernel) rfl rfl (Nat.le_of_ble_eq_true rfl) d_RRd_nextBit_25 (fun H locs hP hD hS => ?_)
      have hP : va_P D vwCl [(h0, .inr (7, [.ref qs, .int la, .int 8])), (qs, .inr (3, [.ref qr, .int pl, .int ln, .int cm])), (qr, .inr (0, [.ref qa, .int u])), (qa, .inl (k.1, n, .inl f))] H := hP
      have hD : va_D A [(h0, .inr (7, [.ref qs, .int la, .int 8])), (qs, .inr (3, [.ref qr, .int pl, .int ln, .int cm])), (qr, .inr (0, [.ref qa, .int u])), (qa, .inl (k.1, n, .inl f))] := hD
      refine lv_aload_n hx hb d_RRd_nextBit_28 rfl (lv_at hl 0 rfl) ?_
      refine lv_aload_n hx hb d_RRd_nextBit_29 rfl (lv_at hl 0 rfl) ?_
      refine va_get (D := D) (ci := 7) (v := .ref qs) (C := R_RRd) (T := T_RRd) (N := 3) hx hb hts inw_RRd hown hK hP 0 rfl rfl 0 (by decide) (hts (.fieldLink R_RRd 9 "LikelyBits$RawReader" "source" "LLikelyBits$Source;") mw_177) (fun _ h9 => h9) rfl d_RRd_nextBit_30 ?_
      refine kci (wc := [(qs, .inr (3, [.ref qr, .int pl, .int ln, .int cm])), (qr, .inr (0, [.ref qa, .int u])), (qa, .inl (k.1, n, .inl f))]) (wr := [(h0, .inr (7, [.ref qs, .int la, .int 8]))]) (va_runV (As := []) (rest := [.ref h0]) ⟨hx, hb, hml, hown, hts⟩ (c_Src_take l hl9 D k qs qr qa H.size pl ln cm n f u L (by assumption)) (cwV 0 hts (gV mw_180 mw_155 mw_156 mw_147 mw_157) rfl rfl rfl (by decide +kernel) ⟨(Nat.le_of_ble_eq_true rfl), (Nat.le_of_ble_eq_true rfl)⟩) (kRecv (q := (R_Src, T_Src, 4)) (q0 := 1) (ci := 3) hK hP rfl rfl (kPre (wc := [(qs, .inr (3, [.ref qr, .int pl, .int ln, .int cm])), (qr, .inr (0, [.ref qa, .int u])), (qa, .inl (k.1, n, .inl f))]) hE hK hP hD hS hA [1, 2, 3] rfl (by decide))) rfl rfl hl.1 rfl (lv_room (Nat.le_of_ble_eq_true rfl)) d_RRd_nextBit_33 ⟨(Nat.le_of_ble_eq_true rfl), (Nat.le_of_ble_eq_true rfl)⟩) hP hD hS hA [1, 2, 3] [0] rfl rfl (by decide) (by decide) (fun r5 zz uu H locs hw6 hz7 hP hD hS => ?_)
      obtain ⟨cm_4, rfl⟩ : ∃ y, y = uu := ⟨_, rfl⟩
      have hw6 : r5 = spk L pl ln cm ∧ cm_4 = scm ln cm := hw6
      have hP : va_P D vwCl [(h0, .inr (7, [.ref qs, .int la, .int 8])), (qs, .inr (3, [.ref qr, .int pl, .int ln, .int cm_4])), (qr, .inr (0, [.ref qa, .int u])), (qa, .inl (k.1, n, .inl f))] H := hP
      have hD : va_D A [(h0, .inr (7, [.ref qs, .int la, .int 8])), (qs, .inr (3, [.ref qr, .int pl, .int ln, .int cm_4])), (qr, .inr (0, [.ref qa, .int u])), (qa, .inl (k.1, n, .inl f))] := hD
      refine va_put (D := D) (ci := 7) (v := .int r5) (ty := .int) (C := R_RRd) (T := T_RRd) (N := 3) hx hb hts inw_RRd ty_RRd tyok_RRd nm_RRd hown hK hP hD hS 0 rfl rfl 1 (by decide) (hts (.fieldLink R_RRd 15 "LikelyBits$RawReader" "last" "I") mw_178) (fun _ h9 => h9) rfl (by decide +kernel) rfl rfl (Nat.le_of_ble_eq_true rfl) d_RRd_nextBit_36 (fun H locs hP hD hS => ?_)
      have hP : va_P D vwCl [(h0, .inr (7, [.ref qs, .int r5, .int 8])), (qs, .inr (3, [.ref qr, .int pl, .int ln, .int cm_4])), (qr, .inr (0, [.ref qa, .int u])), (qa, .inl (k.1, n, .inl f))] H := hP
      have hD : va_D A [(h0, .inr (7, [.ref qs, .int r5, .int 8])), (qs, .inr (3, [.ref qr, .int pl, .int ln, .int cm_4])), (qr, .inr (0, [.ref qa, .int u])), (qa, .inl (k.1, n, .inl f))] := hD
      refine lv_aload_n hx hb d_RRd_nextBit_39 rfl (lv_at hl 0 rfl) ?_
      refine lv_dup hx hb d_RRd_nextBit_40 rfl ?_
      refine va_get (D := D) (ci := 7) (v := .int 8) (C := R_RRd) (T := T_RRd) (N := 3) hx hb hts inw_RRd hown hK hP 0 rfl rfl 2 (by decide) (hts (.fieldLink R_RRd 19 "LikelyBits$RawReader" "left" "I") mw_179) (fun _ h9 => h9) rfl d_RRd_nextBit_41 ?_
      refine lv_iconst (v := 1) hx hb d_RRd_nextBit_44 (by decide) ?_
      refine lv_isub hx hb d_RRd_nextBit_45 ?_
      refine lv_topi (fun x8 ex8 => ?_)
      refine va_put (D := D) (ci := 7) (v := .int x8) (ty := .int) (C := R_RRd) (T := T_RRd) (N := 3) hx hb hts inw_RRd ty_RRd tyok_RRd nm_RRd hown hK hP hD hS 0 rfl rfl 2 (by decide) (hts (.fieldLink R_RRd 19 "LikelyBits$RawReader" "left" "I") mw_179) (fun _ h9 => h9) rfl (by decide +kernel) rfl rfl (Nat.le_of_ble_eq_true rfl) d_RRd_nextBit_46 (fun H locs hP hD hS => ?_)
      have hP : va_P D vwCl [(h0, .inr (7, [.ref qs, .int r5, .int x8])), (qs, .inr (3, [.ref qr, .int pl, .int ln, .int cm_4])), (qr, .inr (0, [.ref qa, .int u])), (qa, .inl (k.1, n, .inl f))] H := hP
      have hD : va_D A [(h0, .inr (7, [.ref qs, .int r5, .int x8])), (qs, .inr (3, [.ref qr, .int pl, .int ln, .int cm_4])), (qr, .inr (0, [.ref qa, .int u])), (qa, .inl (k.1, n, .inl f))] := hD
      refine lv_aload_n hx hb d_RRd_nextBit_49 rfl (lv_at hl 0 rfl) ?_
      refine va_get (D := D) (ci := 7) (v := .int r5) (C := R_RRd) (T := T_RRd) (N := 3) hx hb hts inw_RRd hown hK hP 0 rfl rfl 1 (by decide) (hts (.fieldLink R_RRd 15 "LikelyBits$RawReader" "last" "I") mw_178) (fun _ h9 => h9) rfl d_RRd_nextBit_50 ?_
      refine lv_aload_n hx hb d_RRd_nextBit_53 rfl (lv_at hl 0 rfl) ?_
      refine va_get (D := D) (ci := 7) (v := .int x8) (C := R_RRd) (T := T_RRd) (N := 3) hx hb hts inw_RRd hown hK hP 0 rfl rfl 2 (by decide) (hts (.fieldLink R_RRd 19 "LikelyBits$RawReader" "left" "I") mw_179) (fun _ h9 => h9) rfl d_RRd_nextBit_54 ?_
      refine lv_iushr (v := jushr r5 x8) hx hb d_RRd_nextBit_57 rfl ?_
      refine lv_iconst (v := 1) hx hb d_RRd_nextBit_58 (by decide) ?_
      refine lv_iand hx hb d_RRd_nextBit_59 ?_
      exact kri (wo := wo_RRd_nextBit k h0 qs qr qa la le pl ln cm n f u L) hx hb hr hlk hP hD hS (r5, x8, cm_4) () (by subst ex8; obtain ⟨rfl, rfl⟩ := hw6; simp [po_RRd_nextBit, rrb, rrb2, c1, c3]) trivial [0, 1, 2, 3] rfl (by decide) (Nat.le_of_ble_eq_true rfl) (Nat.le_of_ble_eq_true rfl) d_RRd_nextBit_60
    · refine lv_bipush (v := 7) hx hb d_RRd_nextBit_18 (by decide) ?_
      refine lv_goto (tgt := 25) hx hb d_RRd_nextBit_20 (by decide) ?_
      refine va_put (D := D) (ci := 7) (v := .int 7) (ty := .int) (C := R_RRd) (T := T_RRd) (N := 3) hx hb hts inw_RRd ty_RRd tyok_RRd nm_RRd hown hK hP hD hS 0 rfl rfl 2 (by decide) (hts (.fieldLink R_RRd 19 "LikelyBits$RawReader" "left" "I") mw_179) (fun _ h9 => h9) rfl (by decide +kernel) rfl rfl (Nat.le_of_ble_eq_true rfl) d_RRd_nextBit_25 (fun H locs hP hD hS => ?_)
      have hP : va_P D vwCl [(h0, .inr (7, [.ref qs, .int la, .int 7])), (qs, .inr (3, [.ref qr, .int pl, .int ln, .int cm])), (qr, .inr (0, [.ref qa, .int u])), (qa, .inl (k.1, n, .inl f))] H := hP
      have hD : va_D A [(h0, .inr (7, [.ref qs, .int la, .int 7])), (qs, .inr (3, [.ref qr, .int pl, .int ln, .int cm])), (qr, .inr (0, [.ref qa, .int u])), (qa, .inl (k.1, n, .inl f))] := hD
      refine lv_aload_n hx hb d_RRd_nextBit_28 rfl (lv_at hl 0 rfl) ?_
      refine lv_aload_n hx hb d_RRd_nextBit_29 rfl (lv_at hl 0 rfl) ?_
      refine va_get (D := D) (ci := 7) (v := .ref qs) (C := R_RRd) (T := T_RRd) (N := 3) hx hb hts inw_RRd hown hK hP 0 rfl rfl 0 (by decide) (hts (.fieldLink R_RRd 9 "LikelyBits$RawReader" "source" "LLikelyBits$Source;") mw_177) (fun _ h9 => h9) rfl d_RRd_nextBit_30 ?_
      refine kci (wc := [(qs, .inr (3, [.ref qr, .int pl, .int ln, .int cm])), (qr, .inr (0, [.ref qa, .int u])), (qa, .inl (k.1, n, .inl f))]) (wr := [(h0, .inr (7, [.ref qs, .int la, .int 7]))]) (va_runV (As := []) (rest := [.ref h0]) ⟨hx, hb, hml, hown, hts⟩ (c_Src_take l hl9 D k qs qr qa H.size pl ln cm n f u L (by assumption)) (cwV 0 hts (gV mw_180 mw_155 mw_156 mw_147 mw_157) rfl rfl rfl (by decide +kernel) ⟨(Nat.le_of_ble_eq_true rfl), (Nat.le_of_ble_eq_true rfl)⟩) (kRecv (q := (R_Src, T_Src, 4)) (q0 := 1) (ci := 3) hK hP rfl rfl (kPre (wc := [(qs, .inr (3, [.ref qr, .int pl, .int ln, .int cm])), (qr, .inr (0, [.ref qa, .int u])), (qa, .inl (k.1, n, .inl f))]) hE hK hP hD hS hA [1, 2, 3] rfl (by decide))) rfl rfl hl.1 rfl (lv_room (Nat.le_of_ble_eq_true rfl)) d_RRd_nextBit_33 ⟨(Nat.le_of_ble_eq_true rfl), (Nat.le_of_ble_eq_true rfl)⟩) hP hD hS hA [1, 2, 3] [0] rfl rfl (by decide) (by decide) (fun r10 zz uu H locs hw11 hz12 hP hD hS => ?_)
      obtain ⟨cm_9, rfl⟩ : ∃ y, y = uu := ⟨_, rfl⟩
      have hw11 : r10 = spk L pl ln cm ∧ cm_9 = scm ln cm := hw11
      have hP : va_P D vwCl [(h0, .inr (7, [.ref qs, .int la, .int 7])), (qs, .inr (3, [.ref qr, .int pl, .int ln, .int cm_9])), (qr, .inr (0, [.ref qa, .int u])), (qa, .inl (k.1, n, .inl f))] H := hP
      have hD : va_D A [(h0, .inr (7, [.ref qs, .int la, .int 7])), (qs, .inr (3, [.ref qr, .int pl, .int ln, .int cm_9])), (qr, .inr (0, [.ref qa, .int u])), (qa, .inl (k.1, n, .inl f))] := hD
      refine va_put (D := D) (ci := 7) (v := .int r10) (ty := .int) (C := R_RRd) (T := T_RRd) (N := 3) hx hb hts inw_RRd ty_RRd tyok_RRd nm_RRd hown hK hP hD hS 0 rfl rfl 1 (by decide) (hts (.fieldLink R_RRd 15 "LikelyBits$RawReader" "last" "I") mw_178) (fun _ h9 => h9) rfl (by decide +kernel) rfl rfl (Nat.le_of_ble_eq_true rfl) d_RRd_nextBit_36 (fun H locs hP hD hS => ?_)
      have hP : va_P D vwCl [(h0, .inr (7, [.ref qs, .int r10, .int 7])), (qs, .inr (3, [.ref qr, .int pl, .int ln, .int cm_9])), (qr, .inr (0, [.ref qa, .int u])), (qa, .inl (k.1, n, .inl f))] H := hP
      have hD : va_D A [(h0, .inr (7, [.ref qs, .int r10, .int 7])), (qs, .inr (3, [.ref qr, .int pl, .int ln, .int cm_9])), (qr, .inr (0, [.ref qa, .int u])), (qa, .inl (k.1, n, .inl f))] := hD
      refine lv_aload_n hx hb d_RRd_nextBit_39 rfl (lv_at hl 0 rfl) ?_
      refine lv_dup hx hb d_RRd_nextBit_40 rfl ?_
      refine va_get (D := D) (ci := 7) (v := .int 7) (C := R_RRd) (T := T_RRd) (N := 3) hx hb hts inw_RRd hown hK hP 0 rfl rfl 2 (by decide) (hts (.fieldLink R_RRd 19 "LikelyBits$RawReader" "left" "I") mw_179) (fun _ h9 => h9) rfl d_RRd_nextBit_41 ?_
      refine lv_iconst (v := 1) hx hb d_RRd_nextBit_44 (by decide) ?_
      refine lv_isub hx hb d_RRd_nextBit_45 ?_
      refine lv_topi (fun x13 ex13 => ?_)
      refine va_put (D := D) (ci := 7) (v := .int x13) (ty := .int) (C := R_RRd) (T := T_RRd) (N := 3) hx hb hts inw_RRd ty_RRd tyok_RRd nm_RRd hown hK hP hD hS 0 rfl rfl 2 (by decide) (hts (.fieldLink R_RRd 19 "LikelyBits$RawReader" "left" "I") mw_179) (fun _ h9 => h9) rfl (by decide +kernel) rfl rfl (Nat.le_of_ble_eq_true rfl) d_RRd_nextBit_46 (fun H locs hP hD hS => ?_)
      have hP : va_P D vwCl [(h0, .inr (7, [.ref qs, .int r10, .int x13])), (qs, .inr (3, [.ref qr, .int pl, .int ln, .int cm_9])), (qr, .inr (0, [.ref qa, .int u])), (qa, .inl (k.1, n, .inl f))] H := hP
      have hD : va_D A [(h0, .inr (7, [.ref qs, .int r10, .int x13])), (qs, .inr (3, [.ref qr, .int pl, .int ln, .int cm_9])), (qr, .inr (0, [.ref qa, .int u])), (qa, .inl (k.1, n, .inl f))] := hD
      refine lv_aload_n hx hb d_RRd_nextBit_49 rfl (lv_at hl 0 rfl) ?_
      refine va_get (D := D) (ci := 7) (v := .int r10) (C := R_RRd) (T := T_RRd) (N := 3) hx hb hts inw_RRd hown hK hP 0 rfl rfl 1 (by decide) (hts (.fieldLink R_RRd 15 "LikelyBits$RawReader" "last" "I") mw_178) (fun _ h9 => h9) rfl d_RRd_nextBit_50 ?_
      refine lv_aload_n hx hb d_RRd_nextBit_53 rfl (lv_at hl 0 rfl) ?_
      refine va_get (D := D) (ci := 7) (v := .int x13) (C := R_RRd) (T := T_RRd) (N := 3) hx hb hts inw_RRd hown hK hP 0 rfl rfl 2 (by decide) (hts (.fieldLink R_RRd 19 "LikelyBits$RawReader" "left" "I") mw_179) (fun _ h9 => h9) rfl d_RRd_nextBit_54 ?_
      refine lv_iushr (v := jushr r10 x13) hx hb d_RRd_nextBit_57 rfl ?_
      refine lv_iconst (v := 1) hx hb d_RRd_nextBit_58 (by decide) ?_
      refine lv_iand hx hb d_RRd_nextBit_59 ?_
      exact kri (wo := wo_RRd_nextBit k h0 qs qr qa la le pl ln cm n f u L) hx hb hr hlk hP hD hS (r10, x13, cm_9) () (by subst ex13; obtain ⟨rfl, rfl⟩ := hw11; simp [po_RRd_nextBit, rrb, rrb2, c1, c3]) trivial [0, 1, 2, 3] rfl (by decide) (Nat.le_of_ble_eq_true rfl) (Nat.le_of_ble_eq_true rfl) d_RRd_nextBit_60

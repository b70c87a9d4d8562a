set_option maxRecDepth 20000 in
theorem mw_138 : (Cond.methodLink R_Src 3 objectInit) ∈ AW := inAW (List.mem_append_right _ (show _ ∈ tables_1_1 ++ (tables_1_2 ++ (tables_1_3 ++ tables_1_4)) from (List.mem_append_left _ (List.mem_of_getElem? (i := 113) rfl)))) rfl
set_option maxRecDepth 20000 in
theorem mw_139 : (Cond.fieldLink R_Src 9 "LikelyBits$Source" "row" "LLikelyBits$Row;") ∈ AW := inAW (List.mem_append_right _ (show _ ∈ tables_1_1 ++ (tables_1_2 ++ (tables_1_3 ++ tables_1_4)) from (List.mem_append_left _ (List.mem_of_getElem? (i := 114) rfl)))) rfl
set_option maxRecDepth 20000 in
theorem mw_140 : (Cond.fieldLink R_Src 15 "LikelyBits$Source" "place" "I") ∈ AW := inAW (List.mem_append_right _ (show _ ∈ tables_1_1 ++ (tables_1_2 ++ (tables_1_3 ++ tables_1_4)) from (List.mem_append_left _ (List.mem_of_getElem? (i := 115) rfl)))) rfl
set_option maxRecDepth 20000 in
theorem mw_141 : (Cond.fieldLink R_Src 19 "LikelyBits$Source" "length" "I") ∈ AW := inAW (List.mem_append_right _ (show _ ∈ tables_1_1 ++ (tables_1_2 ++ (tables_1_3 ++ tables_1_4)) from (List.mem_append_left _ (List.mem_of_getElem? (i := 116) rfl)))) rfl
set_option maxRecDepth 20000 in
theorem mw_142 : (Cond.fieldLink R_Src 22 "LikelyBits$Source" "came" "I") ∈ AW := inAW (List.mem_append_right _ (show _ ∈ tables_1_1 ++ (tables_1_2 ++ (tables_1_3 ++ tables_1_4)) from (List.mem_append_left _ (List.mem_of_getElem? (i := 117) rfl)))) rfl
set_option maxRecDepth 20000 in
theorem mw_143 : (Cond.methodLink R_Src 25 y_Row_byteAt) ∈ AW := inAW (List.mem_append_right _ (show _ ∈ tables_1_1 ++ (tables_1_2 ++ (tables_1_3 ++ tables_1_4)) from (List.mem_append_right _ (List.mem_append_right _ (List.mem_append_left _ (List.mem_of_getElem? (i := 133) rfl)))))) rfl
set_option maxRecDepth 20000 in
theorem mw_144 : (Cond.methodLink R_Src 31 y_Src_peek) ∈ AW := inAW (List.mem_append_right _ (show _ ∈ tables_1_1 ++ (tables_1_2 ++ (tables_1_3 ++ tables_1_4)) from (List.mem_append_right _ (List.mem_append_right _ (List.mem_append_left _ (List.mem_of_getElem? (i := 129) rfl)))))) rfl
set_option maxRecDepth 20000 in
theorem mw_145 : (Cond.instanceMethod y_Src_peek) ∈ AW := inAW (List.mem_append_right _ (show _ ∈ tables_1_1 ++ (tables_1_2 ++ (tables_1_3 ++ tables_1_4)) from (List.mem_append_right _ (List.mem_append_right _ (List.mem_append_left _ (List.mem_of_getElem? (i := 130) rfl)))))) rfl
set_option maxRecDepth 20000 in
theorem mw_146 : (Cond.selects R_Src y_Src_peek y_Src_peek) ∈ AW := inAW (List.mem_append_right _ (show _ ∈ tables_1_1 ++ (tables_1_2 ++ (tables_1_3 ++ tables_1_4)) from (List.mem_append_right _ (List.mem_append_right _ (List.mem_append_left _ (List.mem_of_getElem? (i := 131) rfl)))))) rfl
set_option maxRecDepth 20000 in
theorem mw_147 : (Cond.initialized R_Src) ∈ AW := inAW (List.mem_append_right _ (show _ ∈ tables_1_1 ++ (tables_1_2 ++ (tables_1_3 ++ tables_1_4)) from (List.mem_append_left _ (List.mem_of_getElem? (i := 7) rfl)))) rfl
set_option maxRecDepth 20000 in
theorem mw_148 : (Cond.code y_Src_peek b_Src_peek 1 (some .int)) ∈ AW := inAW (List.mem_append_right _ (show _ ∈ tables_1_1 ++ (tables_1_2 ++ (tables_1_3 ++ tables_1_4)) from (List.mem_append_right _ (List.mem_append_right _ (List.mem_append_left _ (List.mem_of_getElem? (i := 132) rfl)))))) rfl
def wo_Src_init (k : gK) (h0 : Nat) (qr : Nat) (zz : Unit) (uu : Unit) : va_W := match zz, uu with
  | _, _ => [(h0, .inr (3, [.ref qr, .int 0, .int 0, .int 0]))]
def ex_Src_init (k : gK) (h0 : Nat) (qr : Nat) (zz : Unit) (uu : Unit) : Prop := match zz, uu with
  | _, _ => True
def po_Src_init (k : gK) (h0 : Nat) (qr : Nat) (uu : Unit) : Prop := match uu with
  | _ => True
def qc_Src_init (D : va_G) (k : gK) (h0 : Nat) (qr : Nat) (A : Nat → Prop) : Array Value → State → Outcome → State → Prop := va_Qv (po_Src_init k h0 qr) (fun uu t => ∃ zz, ex_Src_init k h0 qr zz uu ∧ GP D A (wo_Src_init k h0 qr zz uu) t) A
set_option maxHeartbeats 1000000 in
set_option maxRecDepth 100000 in
theorem c_Src_init (l : Launch) (hl9 : l.stackTraces = false) (D : va_G) (k : gK) (h0 : Nat) (zsz : Nat) (qr : Nat) : Met l y_Src_init (.code y_Src_init b_Src_init 2 none :: AW) ({ frames := 1, cells := 0, slots := 0, locals := 22 }) (va_Pc [.ref h0, .ref qr] (GG D k [(h0, .inr (3, [.null, .int 0, .int 0, .int 0]))] zsz)) (qc_Src_init D k h0 qr (va_A [(h0, .inr (3, [.null, .int 0, .int 0, .int 0]))] zsz)) 0 0 (va_A [(h0, .inr (3, [.null, .int 0, .int 0, .int 0]))] zsz) := by
  refine kMet (ws := [(h0, .inr (3, [.null, .int 0, .int 0, .int 0]))]) (Qc := qc_Src_init D k h0 qr) (by decide) (Nat.le_of_ble_eq_true rfl) (fun p e s m below meth c ls A H Cc hP hD hA hS hl => ?_)
  obtain ⟨hx, hb, hml, hr, hlk, hown, hts, hK, hE, hin⟩ := Cc
  have hl : lv_has ls 2 [(0, .ref h0), (1, .ref qr)] := hl
  refine lv_aload_n hx hb d_Src_init_0 rfl (lv_at hl 0 rfl) ?_
  refine W.objInit hx hb hown (hts (.methodLink R_Src 3 objectInit) mw_138) (hts (.instanceMethod objectInit) mw_3) (hts (.code objectInit ⟨#[0xb1]⟩ 1 none) mw_4) rfl (by rw [hml]; exact hl.1) rfl d_Src_init_1 (Nat.le_of_ble_eq_true rfl) (Nat.le_of_ble_eq_true rfl) ?_
  refine W.eq (g2 := F0 m 4 ls []) rfl ?_
  refine lv_aload_n hx hb d_Src_init_4 rfl (lv_at hl 0 rfl) ?_
  refine lv_aload_n hx hb d_Src_init_5 rfl (lv_at hl 1 rfl) ?_
  refine va_putF (D := D) (ci := 3) (v := .ref qr) (ty := .object "LikelyBits$Row") (C := R_Src) (T := T_Src) (N := 4) hx hb hts inw_Src ty_Src tyok_Src nm_Src hown hK hP hD hS 0 rfl rfl 0 (by decide) (hts (.fieldLink R_Src 9 "LikelyBits$Source" "row" "LLikelyBits$Row;") mw_139) (fun _ h9 => h9) rfl hin rfl (by decide +kernel) rfl rfl (Nat.le_of_ble_eq_true rfl) d_Src_init_6 (fun H locs hP hD hS => ?_)
  have hP : va_P D vwCl [(h0, .inr (3, [.ref qr, .int 0, .int 0, .int 0]))] H := hP
  have hD : va_D A [(h0, .inr (3, [.ref qr, .int 0, .int 0, .int 0]))] := hD
  exact krv (wo := wo_Src_init k h0 qr) hx hb hr hlk hP hD hS () () trivial trivial [0] rfl (by decide) (Nat.le_of_ble_eq_true rfl) (Nat.le_of_ble_eq_true rfl) d_Src_init_9

def wo_Src_begin (k : gK) (h0 : Nat) (qr : Nat) (pl : Int32) (ln : Int32) (cm : Int32) (x : Int32) (y : Int32) (zz : Unit) (uu : Unit) : va_W := match zz, uu with
  | _, _ => [(h0, .inr (3, [.ref qr, .int x, .int y, .int 0]))]
def ex_Src_begin (k : gK) (h0 : Nat) (qr : Nat) (pl : Int32) (ln : Int32) (cm : Int32) (x : Int32) (y : Int32) (zz : Unit) (uu : Unit) : Prop := match zz, uu with
  | _, _ => True
def po_Src_begin (k : gK) (h0 : Nat) (qr : Nat) (pl : Int32) (ln : Int32) (cm : Int32) (x : Int32) (y : Int32) (uu : Unit) : Prop := match uu with
  | _ => True
def qc_Src_begin (D : va_G) (k : gK) (h0 : Nat) (qr : Nat) (pl : Int32) (ln : Int32) (cm : Int32) (x : Int32) (y : Int32) (A : Nat → Prop) : Array Value → State → Outcome → State → Prop := va_Qv (po_Src_begin k h0 qr pl ln cm x y) (fun uu t => ∃ zz, ex_Src_begin k h0 qr pl ln cm x y zz uu ∧ GP D A (wo_Src_begin k h0 qr pl ln cm x y zz uu) t) A
set_option maxHeartbeats 1000000 in
set_option maxRecDepth 100000 in
theorem c_Src_begin (l : Launch) (hl9 : l.stackTraces = false) (D : va_G) (k : gK) (h0 : Nat) (zsz : Nat) (qr : Nat) (pl : Int32) (ln : Int32) (cm : Int32) (x : Int32) (y : Int32) : Met l y_Src_begin (.code y_Src_begin b_Src_begin 3 none :: AW) ({ frames := 0, cells := 0, slots := 0, locals := 0 }) (va_Pc [.ref h0, .int x, .int y] (GG D k [(h0, .inr (3, [.ref qr, .int pl, .int ln, .int cm]))] zsz)) (qc_Src_begin D k h0 qr pl ln cm x y (va_A [(h0, .inr (3, [.ref qr, .int pl, .int ln, .int cm]))] zsz)) 0 0 (va_A [(h0, .inr (3, [.ref qr, .int pl, .int ln, .int cm]))] zsz) := by
  refine kMet (ws := [(h0, .inr (3, [.ref qr, .int pl, .int ln, .int cm]))]) (Qc := qc_Src_begin D k h0 qr pl ln cm x y) (by decide) (Nat.le_of_ble_eq_true rfl) (fun p e s m below meth c ls A H Cc hP hD hA hS hl => ?_)
  obtain ⟨hx, hb, hml, hr, hlk, hown, hts, hK, hE, hin⟩ := Cc
  have hl : lv_has ls 3 [(0, .ref h0), (1, .int x), (2, .int y)] := hl
  refine lv_aload_n hx hb d_Src_begin_0 rfl (lv_at hl 0 rfl) ?_
  refine lv_iload_n hx hb d_Src_begin_1 rfl (lv_at hl 1 rfl) ?_
  refine va_put (D := D) (ci := 3) (v := .int x) (ty := .int) (C := R_Src) (T := T_Src) (N := 4) hx hb hts inw_Src ty_Src tyok_Src nm_Src hown hK hP hD hS 0 rfl rfl 1 (by decide) (hts (.fieldLink R_Src 15 "LikelyBits$Source" "place" "I") mw_140) (fun _ h9 => h9) rfl (by decide +kernel) rfl rfl (Nat.le_of_ble_eq_true rfl) d_Src_begin_2 (fun H locs hP hD hS => ?_)
  have hP : va_P D vwCl [(h0, .inr (3, [.ref qr, .int x, .int ln, .int cm]))] H := hP
  have hD : va_D A [(h0, .inr (3, [.ref qr, .int x, .int ln, .int cm]))] := hD
  refine lv_aload_n hx hb d_Src_begin_5 rfl (lv_at hl 0 rfl) ?_
  refine lv_iload_n hx hb d_Src_begin_6 rfl (lv_at hl 2 rfl) ?_
  refine va_put (D := D) (ci := 3) (v := .int y) (ty := .int) (C := R_Src) (T := T_Src) (N := 4) hx hb hts inw_Src ty_Src tyok_Src nm_Src hown hK hP hD hS 0 rfl rfl 2 (by decide) (hts (.fieldLink R_Src 19 "LikelyBits$Source" "length" "I") mw_141) (fun _ h9 => h9) rfl (by decide +kernel) rfl rfl (Nat.le_of_ble_eq_true rfl) d_Src_begin_7 (fun H locs hP hD hS => ?_)
  have hP : va_P D vwCl [(h0, .inr (3, [.ref qr, .int x, .int y, .int cm]))] H := hP
  have hD : va_D A [(h0, .inr (3, [.ref qr, .int x, .int y, .int cm]))] := hD
  refine lv_aload_n hx hb d_Src_begin_10 rfl (lv_at hl 0 rfl) ?_
  refine lv_iconst (v := 0) hx hb d_Src_begin_11 (by decide) ?_
  refine va_put (D := D) (ci := 3) (v := .int 0) (ty := .int) (C := R_Src) (T := T_Src) (N := 4) hx hb hts inw_Src ty_Src tyok_Src nm_Src hown hK hP hD hS 0 rfl rfl 3 (by decide) (hts (.fieldLink R_Src 22 "LikelyBits$Source" "came" "I") mw_142) (fun _ h9 => h9) rfl (by decide +kernel) rfl rfl (Nat.le_of_ble_eq_true rfl) d_Src_begin_12 (fun H locs hP hD hS => ?_)
  have hP : va_P D vwCl [(h0, .inr (3, [.ref qr, .int x, .int y, .int 0]))] H := hP
  have hD : va_D A [(h0, .inr (3, [.ref qr, .int x, .int y, .int 0]))] := hD
  exact krv (wo := wo_Src_begin k h0 qr pl ln cm x y) hx hb hr hlk hP hD hS () () trivial trivial [0] rfl (by decide) (Nat.le_of_ble_eq_true rfl) (Nat.le_of_ble_eq_true rfl) d_Src_begin_15

set_option maxHeartbeats 1000000 in
set_option maxRecDepth 100000 in
theorem c_Src_peek (l : Launch) (hl9 : l.stackTraces = false) (D : va_G) (k : gK) (h0 qr qa : Nat) (pl : Int32) (ln : Int32) (cm : Int32) (n : Nat) (f : Nat → Int32) (u : Int32) (L : List Int32) (hR : row_ok n f u L) : Met l y_Src_peek (.code y_Src_peek b_Src_peek 1 (some .int) :: AW) { frames := 1, cells := 0, slots := 0, locals := 21 } (va_Pc [.ref h0] (GR D k [(h0, .inr (3, [.ref qr, .int pl, .int ln, .int cm])), (qr, .inr (0, [.ref qa, .int u])), (qa, .inl (k.1, n, .inl f))])) (va_Qi (fun r (_ : Unit) => r = spk L pl ln cm) (fun _ _ => True) (fun _ => False)) 0 0 (fun _ => False) := by
  refine kMetR (ws := [(h0, .inr (3, [.ref qr, .int pl, .int ln, .int cm])), (qr, .inr (0, [.ref qa, .int u])), (qa, .inl (k.1, n, .inl f))]) (by decide) (Nat.le_of_ble_eq_true rfl) (fun p e s m below meth c ls H Cc hP hS hl => ?_)
  obtain ⟨hx, hb, hml, hr, hlk, hown, hts, hK, hE, hin⟩ := Cc
  have hl : lv_has ls 1 [(0, .ref h0)] := hl
  refine lv_aload_n hx hb d_Src_peek_0 rfl (lv_at hl 0 rfl) ?_
  refine va_get (D := D) (ci := 3) (v := .int cm) (C := R_Src) (T := T_Src) (N := 4) hx hb hts inw_Src hown hK hP 0 rfl rfl 3 (by decide) (hts (.fieldLink R_Src 22 "LikelyBits$Source" "came" "I") mw_142) (fun _ h9 => h9) rfl d_Src_peek_1 ?_
  refine lv_aload_n hx hb d_Src_peek_4 rfl (lv_at hl 0 rfl) ?_
  refine va_get (D := D) (ci := 3) (v := .int ln) (C := R_Src) (T := T_Src) (N := 4) hx hb hts inw_Src hown hK hP 0 rfl rfl 2 (by decide) (hts (.fieldLink R_Src 19 "LikelyBits$Source" "length" "I") mw_141) (fun _ h9 => h9) rfl d_Src_peek_5 ?_
  refine lv_icmp_ge (tgt := 30) hx hb d_Src_peek_8 (by decide) (fun c1 => ?_) (fun c1 => ?_)
  · refine lv_sipush (v := 255) hx hb d_Src_peek_30 (by decide) ?_
    exact koi hx hb hr hlk hS (by simp [spk, c1]) (Nat.le_of_ble_eq_true rfl) (Nat.le_of_ble_eq_true rfl) d_Src_peek_33
  · refine lv_aload_n hx hb d_Src_peek_11 rfl (lv_at hl 0 rfl) ?_
    refine va_get (D := D) (ci := 3) (v := .ref qr) (C := R_Src) (T := T_Src) (N := 4) hx hb hts inw_Src hown hK hP 0 rfl rfl 0 (by decide) (hts (.fieldLink R_Src 9 "LikelyBits$Source" "row" "LLikelyBits$Row;") mw_139) (fun _ h9 => h9) rfl d_Src_peek_12 ?_
    refine lv_aload_n hx hb d_Src_peek_15 rfl (lv_at hl 0 rfl) ?_
    refine va_get (D := D) (ci := 3) (v := .int pl) (C := R_Src) (T := T_Src) (N := 4) hx hb hts inw_Src hown hK hP 0 rfl rfl 1 (by decide) (hts (.fieldLink R_Src 15 "LikelyBits$Source" "place" "I") mw_140) (fun _ h9 => h9) rfl d_Src_peek_16 ?_
    refine lv_aload_n hx hb d_Src_peek_19 rfl (lv_at hl 0 rfl) ?_
    refine va_get (D := D) (ci := 3) (v := .int cm) (C := R_Src) (T := T_Src) (N := 4) hx hb hts inw_Src hown hK hP 0 rfl rfl 3 (by decide) (hts (.fieldLink R_Src 22 "LikelyBits$Source" "came" "I") mw_142) (fun _ h9 => h9) rfl d_Src_peek_20 ?_
    refine lv_iadd hx hb d_Src_peek_23 ?_
    refine kqi (va_runV (As := [.int (pl + cm)]) (rest := []) ⟨hx, hb, hml, hown, hts⟩ (c_Row_byteAt l hl9 D k qr qa n f u L (pl + cm) (by assumption)) (cwV 1 hts (gV mw_143 mw_56 mw_57 mw_47 mw_58) rfl rfl rfl (by decide +kernel) ⟨(Nat.le_of_ble_eq_true rfl), (Nat.le_of_ble_eq_true rfl)⟩) (kRecv (q := (R_Row, T_Row, 2)) (q0 := 1) (ci := 0) hK hP rfl rfl (kPreR (wc := [(qr, .inr (0, [.ref qa, .int u])), (qa, .inl (k.1, n, .inl f))]) hE hK hP hS [1, 2] rfl)) rfl rfl hl.1 rfl (lv_room (Nat.le_of_ble_eq_true rfl)) d_Src_peek_24 ⟨(Nat.le_of_ble_eq_true rfl), (Nat.le_of_ble_eq_true rfl)⟩) hP hS (fun r2 H locs hw hP hS => ?_)
    replace hw := hw.symm
    subst hw
    refine lv_goto (tgt := 33) hx hb d_Src_peek_27 (by decide) ?_
    exact koi hx hb hr hlk hS (by simp [spk, c1]) (Nat.le_of_ble_eq_true rfl) (Nat.le_of_ble_eq_true rfl) d_Src_peek_33

def wo_Src_take (k : gK) (h0 qr qa : Nat) (pl : Int32) (ln : Int32) (cm : Int32) (n : Nat) (f : Nat → Int32) (u : Int32) (L : List Int32) (zz : Unit) (uu : Int32) : va_W := match zz, uu with
  | _, cm2 => [(h0, .inr (3, [.ref qr, .int pl, .int ln, .int cm2])), (qr, .inr (0, [.ref qa, .int u])), (qa, .inl (k.1, n, .inl f))]
def ex_Src_take (k : gK) (h0 qr qa : Nat) (pl : Int32) (ln : Int32) (cm : Int32) (n : Nat) (f : Nat → Int32) (u : Int32) (L : List Int32) (zz : Unit) (uu : Int32) : Prop := match zz, uu with
  | _, cm2 => True
def po_Src_take (k : gK) (h0 qr qa : Nat) (pl : Int32) (ln : Int32) (cm : Int32) (n : Nat) (f : Nat → Int32) (u : Int32) (L : List Int32) (r : Int32) (uu : Int32) : Prop := match uu with
  | cm2 => r = spk L pl ln cm ∧ cm2 = scm ln cm
def qc_Src_take (D : va_G) (k : gK) (h0 qr qa : Nat) (pl : Int32) (ln : Int32) (cm : Int32) (n : Nat) (f : Nat → Int32) (u : Int32) (L : List Int32) (A : Nat → Prop) : Array Value → State → Outcome → State → Prop := va_Qi (po_Src_take k h0 qr qa pl ln cm n f u L) (fun uu t => ∃ zz, ex_Src_take k h0 qr qa pl ln cm n f u L zz uu ∧ GP D A (wo_Src_take k h0 qr qa pl ln cm n f u L zz uu) t) A
set_option maxHeartbeats 1000000 in
set_option maxRecDepth 100000 in
theorem c_Src_take (l : Launch) (hl9 : l.stackTraces = false) (D : va_G) (k : gK) (h0 qr qa : Nat) (zsz : Nat) (pl : Int32) (ln : Int32) (cm : Int32) (n : Nat) (f : Nat → Int32) (u : Int32) (L : List Int32) (hR : row_ok n f u L) : Met l y_Src_take (.code y_Src_take b_Src_take 2 (some .int) :: AW) ({ frames := 2, cells := 0, slots := 0, locals := 41 }) (va_Pc [.ref h0] (GG D k [(h0, .inr (3, [.ref qr, .int pl, .int ln, .int cm])), (qr, .inr (0, [.ref qa, .int u])), (qa, .inl (k.1, n, .inl f))] zsz)) (qc_Src_take D k h0 qr qa pl ln cm n f u L (va_A [(h0, .inr (3, [.ref qr, .int pl, .int ln, .int cm])), (qr, .inr (0, [.ref qa, .int u])), (qa, .inl (k.1, n, .inl f))] zsz)) 0 0 (va_A [(h0, .inr (3, [.ref qr, .int pl, .int ln, .int cm])), (qr, .inr (0, [.ref qa, .int u])), (qa, .inl (k.1, n, .inl f))] zsz) := by
  refine kMet (ws := [(h0, .inr (3, [.ref qr, .int pl, .int ln, .int cm])), (qr, .inr (0, [.ref qa, .int u])), (qa, .inl (k.1, n, .inl f))]) (Qc := qc_Src_take D k h0 qr qa pl ln cm n f u L) (by decide) (Nat.le_of_ble_eq_true rfl) (fun p e s m below meth c ls A H Cc hP hD hA hS hl => ?_)
  obtain ⟨hx, hb, hml, hr, hlk, hown, hts, hK, hE, hin⟩ := Cc
  have hl : lv_has ls 2 [(0, .ref h0)] := hl
  refine lv_aload_n hx hb d_Src_take_0 rfl (lv_at hl 0 rfl) ?_
  refine kqi (va_runV (As := []) (rest := []) ⟨hx, hb, hml, hown, hts⟩ (c_Src_peek l hl9 D k h0 qr qa pl ln cm n f u L (by assumption)) (cwV 0 hts (gV mw_144 mw_145 mw_146 mw_147 mw_148) rfl rfl rfl (by decide +kernel) ⟨(Nat.le_of_ble_eq_true rfl), (Nat.le_of_ble_eq_true rfl)⟩) (kRecv (q := (R_Src, T_Src, 4)) (q0 := 0) (ci := 3) hK hP rfl rfl (kPreR (wc := [(h0, .inr (3, [.ref qr, .int pl, .int ln, .int cm])), (qr, .inr (0, [.ref qa, .int u])), (qa, .inl (k.1, n, .inl f))]) hE hK hP hS [0, 1, 2] rfl)) rfl rfl hl.1 rfl (lv_room (Nat.le_of_ble_eq_true rfl)) d_Src_take_1 ⟨(Nat.le_of_ble_eq_true rfl), (Nat.le_of_ble_eq_true rfl)⟩) hP hS (fun r1 H locs hw hP hS => ?_)
  replace hw := hw.symm
  subst hw
  refine lv_topi (fun x2 ex2 => ?_)
  refine lv_istore_n (lv' := [(1, .int x2), (0, .ref h0)]) hx hb d_Src_take_4 rfl hl (by decide) rfl (fun ls hl => ?_)
  refine lv_aload_n hx hb d_Src_take_5 rfl (lv_at hl 1 rfl) ?_
  refine va_get (D := D) (ci := 3) (v := .int cm) (C := R_Src) (T := T_Src) (N := 4) hx hb hts inw_Src hown hK hP 0 rfl rfl 3 (by decide) (hts (.fieldLink R_Src 22 "LikelyBits$Source" "came" "I") mw_142) (fun _ h9 => h9) rfl d_Src_take_6 ?_
  refine lv_aload_n hx hb d_Src_take_9 rfl (lv_at hl 1 rfl) ?_
  refine va_get (D := D) (ci := 3) (v := .int ln) (C := R_Src) (T := T_Src) (N := 4) hx hb hts inw_Src hown hK hP 0 rfl rfl 2 (by decide) (hts (.fieldLink R_Src 19 "LikelyBits$Source" "length" "I") mw_141) (fun _ h9 => h9) rfl d_Src_take_10 ?_
  refine lv_icmp_ge (tgt := 26) hx hb d_Src_take_13 (by decide) (fun c3 => ?_) (fun c3 => ?_)
  · refine lv_iload_n hx hb d_Src_take_26 rfl (lv_at hl 0 rfl) ?_
    exact kri (wo := wo_Src_take k h0 qr qa pl ln cm n f u L) hx hb hr hlk hP hD hS cm () (by subst ex2; simp [po_Src_take, scm, c3]) trivial [0, 1, 2] rfl (by decide) (Nat.le_of_ble_eq_true rfl) (Nat.le_of_ble_eq_true rfl) d_Src_take_27
  · refine lv_aload_n hx hb d_Src_take_16 rfl (lv_at hl 1 rfl) ?_
    refine lv_dup hx hb d_Src_take_17 rfl ?_
    refine va_get (D := D) (ci := 3) (v := .int cm) (C := R_Src) (T := T_Src) (N := 4) hx hb hts inw_Src hown hK hP 0 rfl rfl 3 (by decide) (hts (.fieldLink R_Src 22 "LikelyBits$Source" "came" "I") mw_142) (fun _ h9 => h9) rfl d_Src_take_18 ?_
    refine lv_iconst (v := 1) hx hb d_Src_take_21 (by decide) ?_
    refine lv_iadd hx hb d_Src_take_22 ?_
    refine lv_topi (fun x4 ex4 => ?_)
    refine va_put (D := D) (ci := 3) (v := .int x4) (ty := .int) (C := R_Src) (T := T_Src) (N := 4) hx hb hts inw_Src ty_Src tyok_Src nm_Src hown hK hP hD hS 0 rfl rfl 3 (by decide) (hts (.fieldLink R_Src 22 "LikelyBits$Source" "came" "I") mw_142) (fun _ h9 => h9) rfl (by decide +kernel) rfl rfl (Nat.le_of_ble_eq_true rfl) d_Src_take_23 (fun H locs hP hD hS => ?_)
    have hP : va_P D vwCl [(h0, .inr (3, [.ref qr, .int pl, .int ln, .int x4])), (qr, .inr (0, [.ref qa, .int u])), (qa, .inl (k.1, n, .inl f))] H := hP
    have hD : va_D A [(h0, .inr (3, [.ref qr, .int pl, .int ln, .int x4])), (qr, .inr (0, [.ref qa, .int u])), (qa, .inl (k.1, n, .inl f))] := hD
    refine lv_iload_n hx hb d_Src_take_26 rfl (lv_at hl 0 rfl) ?_
    exact kri (wo := wo_Src_take k h0 qr qa pl ln cm n f u L) hx hb hr hlk hP hD hS x4 () (by subst ex4; subst ex2; simp [po_Src_take, scm, c3]) trivial [0, 1, 2] rfl (by decide) (Nat.le_of_ble_eq_true rfl) (Nat.le_of_ble_eq_true rfl) d_Src_take_27

set_option maxRecDepth 20000 in
theorem mw_127 : (Cond.methodLink R_RWr 3 objectInit) ∈ AW := inAW (List.mem_append_right _ (show _ ∈ tables_1_1 ++ (tables_1_2 ++ (tables_1_3 ++ tables_1_4)) from (List.mem_append_left _ (List.mem_of_getElem? (i := 99) rfl)))) rfl
set_option maxRecDepth 20000 in
theorem mw_128 : (Cond.fieldLink R_RWr 9 "LikelyBits$RawWriter" "segment" "LLikelyBits$Segment;") ∈ AW := inAW (List.mem_append_right _ (show _ ∈ tables_1_1 ++ (tables_1_2 ++ (tables_1_3 ++ tables_1_4)) from (List.mem_append_left _ (List.mem_of_getElem? (i := 100) rfl)))) rfl
set_option maxRecDepth 20000 in
theorem mw_129 : (Cond.fieldLink R_RWr 15 "LikelyBits$RawWriter" "room" "I") ∈ AW := inAW (List.mem_append_right _ (show _ ∈ tables_1_1 ++ (tables_1_2 ++ (tables_1_3 ++ tables_1_4)) from (List.mem_append_left _ (List.mem_of_getElem? (i := 101) rfl)))) rfl
set_option maxRecDepth 20000 in
theorem mw_130 : (Cond.methodLink R_RWr 19 y_Seg_last) ∈ AW := inAW (List.mem_append_right _ (show _ ∈ tables_1_1 ++ (tables_1_2 ++ (tables_1_3 ++ tables_1_4)) from (List.mem_append_right _ (List.mem_append_left _ (List.mem_of_getElem? (i := 231) rfl))))) rfl
set_option maxRecDepth 20000 in
theorem mw_131 : (Cond.methodLink R_RWr 29 y_Seg_changeLast) ∈ AW := inAW (List.mem_append_right _ (show _ ∈ tables_1_1 ++ (tables_1_2 ++ (tables_1_3 ++ tables_1_4)) from (List.mem_append_right _ (List.mem_append_right _ (List.mem_append_left _ (List.mem_of_getElem? (i := 5) rfl)))))) rfl
set_option maxRecDepth 20000 in
theorem mw_132 : (Cond.methodLink R_RWr 25 y_Seg_append) ∈ AW := inAW (List.mem_append_right _ (show _ ∈ tables_1_1 ++ (tables_1_2 ++ (tables_1_3 ++ tables_1_4)) from (List.mem_append_right _ (List.mem_append_right _ (List.mem_append_left _ (List.mem_of_getElem? (i := 0) rfl)))))) rfl
set_option maxRecDepth 20000 in
theorem mw_133 : (Cond.methodLink R_RWr 32 y_RWr_add) ∈ AW := inAW (List.mem_append_right _ (show _ ∈ tables_1_1 ++ (tables_1_2 ++ (tables_1_3 ++ tables_1_4)) from (List.mem_append_right _ (List.mem_append_right _ (List.mem_append_left _ (List.mem_of_getElem? (i := 82) rfl)))))) rfl
set_option maxRecDepth 20000 in
theorem mw_134 : (Cond.instanceMethod y_RWr_add) ∈ AW := inAW (List.mem_append_right _ (show _ ∈ tables_1_1 ++ (tables_1_2 ++ (tables_1_3 ++ tables_1_4)) from (List.mem_append_right _ (List.mem_append_left _ (List.mem_of_getElem? (i := 228) rfl))))) rfl
set_option maxRecDepth 20000 in
theorem mw_135 : (Cond.selects R_RWr y_RWr_add y_RWr_add) ∈ AW := inAW (List.mem_append_right _ (show _ ∈ tables_1_1 ++ (tables_1_2 ++ (tables_1_3 ++ tables_1_4)) from (List.mem_append_right _ (List.mem_append_left _ (List.mem_of_getElem? (i := 229) rfl))))) rfl
set_option maxRecDepth 20000 in
theorem mw_136 : (Cond.initialized R_RWr) ∈ AW := inAW (List.mem_append_right _ (show _ ∈ tables_1_1 ++ (tables_1_2 ++ (tables_1_3 ++ tables_1_4)) from (List.mem_append_left _ (List.mem_of_getElem? (i := 6) rfl)))) rfl
set_option maxRecDepth 20000 in
theorem mw_137 : (Cond.code y_RWr_add b_RWr_add 2 none) ∈ AW := inAW (List.mem_append_right _ (show _ ∈ tables_1_1 ++ (tables_1_2 ++ (tables_1_3 ++ tables_1_4)) from (List.mem_append_right _ (List.mem_append_left _ (List.mem_of_getElem? (i := 230) rfl))))) rfl
def wo_RWr_init (k : gK) (h0 : Nat) (qs : Nat) (zz : Unit) (uu : Unit) : va_W := match zz, uu with
  | _, _ => [(h0, .inr (6, [.ref qs, .int 0]))]
def ex_RWr_init (k : gK) (h0 : Nat) (qs : Nat) (zz : Unit) (uu : Unit) : Prop := match zz, uu with
  | _, _ => True
def po_RWr_init (k : gK) (h0 : Nat) (qs : Nat) (uu : Unit) : Prop := match uu with
  | _ => True
def qc_RWr_init (D : va_G) (k : gK) (h0 : Nat) (qs : Nat) (A : Nat → Prop) : Array Value → State → Outcome → State → Prop := va_Qv (po_RWr_init k h0 qs) (fun uu t => ∃ zz, ex_RWr_init k h0 qs zz uu ∧ GP D A (wo_RWr_init k h0 qs zz uu) t) A
set_option maxHeartbeats 1000000 in
set_option maxRecDepth 100000 in
theorem c_RWr_init (l : Launch) (hl9 : l.stackTraces = false) (D : va_G) (k : gK) (h0 : Nat) (zsz : Nat) (qs : Nat) : Met l y_RWr_init (.code y_RWr_init b_RWr_init 2 none :: AW) ({ frames := 1, cells := 0, slots := 0, locals := 22 }) (va_Pc [.ref h0, .ref qs] (GG D k [(h0, .inr (6, [.null, .int 0]))] zsz)) (qc_RWr_init D k h0 qs (va_A [(h0, .inr (6, [.null, .int 0]))] zsz)) 0 0 (va_A [(h0, .inr (6, [.null, .int 0]))] zsz) := by
  refine kMet (ws := [(h0, .inr (6, [.null, .int 0]))]) (Qc := qc_RWr_init D k h0 qs) (by decide) (Nat.le_of_ble_eq_true rfl) (fun p e s m below meth c ls A H Cc hP hD hA hS hl => ?_)
  obtain ⟨hx, hb, hml, hr, hlk, hown, hts, hK, hE, hin⟩ := Cc
  have hl : lv_has ls 2 [(0, .ref h0), (1, .ref qs)] := hl
  refine lv_aload_n hx hb d_RWr_init_0 rfl (lv_at hl 0 rfl) ?_
  refine W.objInit hx hb hown (hts (.methodLink R_RWr 3 objectInit) mw_127) (hts (.instanceMethod objectInit) mw_3) (hts (.code objectInit ⟨#[0xb1]⟩ 1 none) mw_4) rfl (by rw [hml]; exact hl.1) rfl d_RWr_init_1 (Nat.le_of_ble_eq_true rfl) (Nat.le_of_ble_eq_true rfl) ?_
  refine W.eq (g2 := F0 m 4 ls []) rfl ?_
  refine lv_aload_n hx hb d_RWr_init_4 rfl (lv_at hl 0 rfl) ?_
  refine lv_aload_n hx hb d_RWr_init_5 rfl (lv_at hl 1 rfl) ?_
  refine va_putF (D := D) (ci := 6) (v := .ref qs) (ty := .object "LikelyBits$Segment") (C := R_RWr) (T := T_RWr) (N := 2) hx hb hts inw_RWr ty_RWr tyok_RWr nm_RWr hown hK hP hD hS 0 rfl rfl 0 (by decide) (hts (.fieldLink R_RWr 9 "LikelyBits$RawWriter" "segment" "LLikelyBits$Segment;") mw_128) (fun _ h9 => h9) rfl hin rfl (by decide +kernel) rfl rfl (Nat.le_of_ble_eq_true rfl) d_RWr_init_6 (fun H locs hP hD hS => ?_)
  have hP : va_P D vwCl [(h0, .inr (6, [.ref qs, .int 0]))] H := hP
  have hD : va_D A [(h0, .inr (6, [.ref qs, .int 0]))] := hD
  exact krv (wo := wo_RWr_init k h0 qs) hx hb hr hlk hP hD hS () () trivial trivial [0] rfl (by decide) (Nat.le_of_ble_eq_true rfl) (Nat.le_of_ble_eq_true rfl) d_RWr_init_9

def wo_RWr_begin (k : gK) (h0 : Nat) (qs : Nat) (rm : Int32) (zz : Unit) (uu : Unit) : va_W := match zz, uu with
  | _, _ => [(h0, .inr (6, [.ref qs, .int 0]))]
def ex_RWr_begin (k : gK) (h0 : Nat) (qs : Nat) (rm : Int32) (zz : Unit) (uu : Unit) : Prop := match zz, uu with
  | _, _ => True
def po_RWr_begin (k : gK) (h0 : Nat) (qs : Nat) (rm : Int32) (uu : Unit) : Prop := match uu with
  | _ => True
def qc_RWr_begin (D : va_G) (k : gK) (h0 : Nat) (qs : Nat) (rm : Int32) (A : Nat → Prop) : Array Value → State → Outcome → State → Prop := va_Qv (po_RWr_begin k h0 qs rm) (fun uu t => ∃ zz, ex_RWr_begin k h0 qs rm zz uu ∧ GP D A (wo_RWr_begin k h0 qs rm zz uu) t) A
set_option maxHeartbeats 1000000 in
set_option maxRecDepth 100000 in
theorem c_RWr_begin (l : Launch) (hl9 : l.stackTraces = false) (D : va_G) (k : gK) (h0 : Nat) (zsz : Nat) (qs : Nat) (rm : Int32) : Met l y_RWr_begin (.code y_RWr_begin b_RWr_begin 1 none :: AW) ({ frames := 0, cells := 0, slots := 0, locals := 0 }) (va_Pc [.ref h0] (GG D k [(h0, .inr (6, [.ref qs, .int rm]))] zsz)) (qc_RWr_begin D k h0 qs rm (va_A [(h0, .inr (6, [.ref qs, .int rm]))] zsz)) 0 0 (va_A [(h0, .inr (6, [.ref qs, .int rm]))] zsz) := by
  refine kMet (ws := [(h0, .inr (6, [.ref qs, .int rm]))]) (Qc := qc_RWr_begin D k h0 qs rm) (by decide) (Nat.le_of_ble_eq_true rfl) (fun p e s m below meth c ls A H Cc hP hD hA hS hl => ?_)
  obtain ⟨hx, hb, hml, hr, hlk, hown, hts, hK, hE, hin⟩ := Cc
  have hl : lv_has ls 1 [(0, .ref h0)] := hl
  refine lv_aload_n hx hb d_RWr_begin_0 rfl (lv_at hl 0 rfl) ?_
  refine lv_iconst (v := 0) hx hb d_RWr_begin_1 (by decide) ?_
  refine va_put (D := D) (ci := 6) (v := .int 0) (ty := .int) (C := R_RWr) (T := T_RWr) (N := 2) hx hb hts inw_RWr ty_RWr tyok_RWr nm_RWr hown hK hP hD hS 0 rfl rfl 1 (by decide) (hts (.fieldLink R_RWr 15 "LikelyBits$RawWriter" "room" "I") mw_129) (fun _ h9 => h9) rfl (by decide +kernel) rfl rfl (Nat.le_of_ble_eq_true rfl) d_RWr_begin_2 (fun H locs hP hD hS => ?_)
  have hP : va_P D vwCl [(h0, .inr (6, [.ref qs, .int 0]))] H := hP
  have hD : va_D A [(h0, .inr (6, [.ref qs, .int 0]))] := hD
  exact krv (wo := wo_RWr_begin k h0 qs rm) hx hb hr hlk hP hD hS () () trivial trivial [0] rfl (by decide) (Nat.le_of_ble_eq_true rfl) (Nat.le_of_ble_eq_true rfl) d_RWr_begin_5

def wo_RWr_add (k : gK) (h0 qs qr qa : Nat) (rm : Int32) (a : Int32) (n : Nat) (f : Nat → Int32) (u : Int32) (L : List Int32) (b : Int32) (zz : Nat × (Nat → Int32) × Int32) (uu : Int32 × Nat × List Int32) : va_W := match zz, uu with
  | (q2, f2, u2), (rm2, n2, L2) => [(h0, .inr (6, [.ref qs, .int rm2])), (qs, .inr (2, [.ref qr, .int a])), (qr, .inr (0, [.ref q2, .int u2])), (q2, .inl (k.1, n2, .inl f2))]
def ex_RWr_add (k : gK) (h0 qs qr qa : Nat) (rm : Int32) (a : Int32) (n : Nat) (f : Nat → Int32) (u : Int32) (L : List Int32) (b : Int32) (zz : Nat × (Nat → Int32) × Int32) (uu : Int32 × Nat × List Int32) : Prop := match zz, uu with
  | (q2, f2, u2), (rm2, n2, L2) => row_ok n2 f2 u2 L2
def po_RWr_add (k : gK) (h0 qs qr qa : Nat) (rm : Int32) (a : Int32) (n : Nat) (f : Nat → Int32) (u : Int32) (L : List Int32) (b : Int32) (uu : Int32 × Nat × List Int32) : Prop := match uu with
  | (rm2, n2, L2) => rm2 = (rad a rm n L b).1 ∧ n2 = (rad a rm n L b).2.1 ∧ L2 = (rad a rm n L b).2.2
def qc_RWr_add (D : va_G) (k : gK) (h0 qs qr qa : Nat) (rm : Int32) (a : Int32) (n : Nat) (f : Nat → Int32) (u : Int32) (L : List Int32) (b : Int32) (A : Nat → Prop) : Array Value → State → Outcome → State → Prop := va_Qv (po_RWr_add k h0 qs qr qa rm a n f u L b) (fun uu t => ∃ zz, ex_RWr_add k h0 qs qr qa rm a n f u L b zz uu ∧ GP D A (wo_RWr_add k h0 qs qr qa rm a n f u L b zz uu) t) A
set_option maxHeartbeats 1000000 in
set_option maxRecDepth 100000 in
theorem c_RWr_add (l : Launch) (hl9 : l.stackTraces = false) (D : va_G) (k : gK) (h0 qs qr qa : Nat) (zsz : Nat) (rm : Int32) (a : Int32) (n : Nat) (f : Nat → Int32) (u : Int32) (L : List Int32) (b : Int32) (hR : row_ok n f u L) : Met l y_RWr_add (.code y_RWr_add b_RWr_add 2 none :: AW) ({ frames := 4, cells := (rad a rm n L b).2.1 - n, slots := 2 * ((rad a rm n L b).2.1 - n), locals := 124 }) (va_Pc [.ref h0, .int b] (GG D k [(h0, .inr (6, [.ref qs, .int rm])), (qs, .inr (2, [.ref qr, .int a])), (qr, .inr (0, [.ref qa, .int u])), (qa, .inl (k.1, n, .inl f))] zsz)) (qc_RWr_add D k h0 qs qr qa rm a n f u L b (va_A [(h0, .inr (6, [.ref qs, .int rm])), (qs, .inr (2, [.ref qr, .int a])), (qr, .inr (0, [.ref qa, .int u])), (qa, .inl (k.1, n, .inl f))] zsz)) ((rad a rm n L b).2.1 - n) (2 * ((rad a rm n L b).2.1 - n)) (va_A [(h0, .inr (6, [.ref qs, .int rm])), (qs, .inr (2, [.ref qr, .int a])), (qr, .inr (0, [.ref qa, .int u])), (qa, .inl (k.1, n, .inl f))] zsz) := by
  refine kMet (ws := [(h0, .inr (6, [.ref qs, .int rm])), (qs, .inr (2, [.ref qr, .int a])), (qr, .inr (0, [.ref qa, .int u])), (qa, .inl (k.1, n, .inl f))]) (Qc := qc_RWr_add D k h0 qs qr qa rm a n f u L b) (by decide) (Nat.le_of_ble_eq_true rfl) (fun p e s m below meth c ls A H Cc hP hD hA hS hl => ?_)
  obtain ⟨hx, hb, hml, hr, hlk, hown, hts, hK, hE, hin⟩ := Cc
  have hl : lv_has ls 2 [(0, .ref h0), (1, .int b)] := hl
  refine lv_aload_n hx hb d_RWr_add_0 rfl (lv_at hl 0 rfl) ?_
  refine va_get (D := D) (ci := 6) (v := .int rm) (C := R_RWr) (T := T_RWr) (N := 2) hx hb hts inw_RWr hown hK hP 0 rfl rfl 1 (by decide) (hts (.fieldLink R_RWr 15 "LikelyBits$RawWriter" "room" "I") mw_129) (fun _ h9 => h9) rfl d_RWr_add_1 ?_
  refine lv_if_ne (tgt := 39) hx hb d_RWr_add_4 (by decide) (fun c1 => ?_) (fun c1 => ?_)
  · refine lv_aload_n hx hb d_RWr_add_39 rfl (lv_at hl 0 rfl) ?_
    refine lv_dup hx hb d_RWr_add_40 rfl ?_
    refine va_get (D := D) (ci := 6) (v := .int rm) (C := R_RWr) (T := T_RWr) (N := 2) hx hb hts inw_RWr hown hK hP 0 rfl rfl 1 (by decide) (hts (.fieldLink R_RWr 15 "LikelyBits$RawWriter" "room" "I") mw_129) (fun _ h9 => h9) rfl d_RWr_add_41 ?_
    refine lv_iconst (v := 1) hx hb d_RWr_add_44 (by decide) ?_
    refine lv_isub hx hb d_RWr_add_45 ?_
    refine lv_topi (fun x2 ex2 => ?_)
    refine va_put (D := D) (ci := 6) (v := .int x2) (ty := .int) (C := R_RWr) (T := T_RWr) (N := 2) hx hb hts inw_RWr ty_RWr tyok_RWr nm_RWr hown hK hP hD hS 0 rfl rfl 1 (by decide) (hts (.fieldLink R_RWr 15 "LikelyBits$RawWriter" "room" "I") mw_129) (fun _ h9 => h9) rfl (by decide +kernel) rfl rfl (Nat.le_of_ble_eq_true rfl) d_RWr_add_46 (fun H locs hP hD hS => ?_)
    have hP : va_P D vwCl [(h0, .inr (6, [.ref qs, .int x2])), (qs, .inr (2, [.ref qr, .int a])), (qr, .inr (0, [.ref qa, .int u])), (qa, .inl (k.1, n, .inl f))] H := hP
    have hD : va_D A [(h0, .inr (6, [.ref qs, .int x2])), (qs, .inr (2, [.ref qr, .int a])), (qr, .inr (0, [.ref qa, .int u])), (qa, .inl (k.1, n, .inl f))] := hD
    refine lv_aload_n hx hb d_RWr_add_49 rfl (lv_at hl 0 rfl) ?_
    refine va_get (D := D) (ci := 6) (v := .ref qs) (C := R_RWr) (T := T_RWr) (N := 2) hx hb hts inw_RWr hown hK hP 0 rfl rfl 0 (by decide) (hts (.fieldLink R_RWr 9 "LikelyBits$RawWriter" "segment" "LLikelyBits$Segment;") mw_128) (fun _ h9 => h9) rfl d_RWr_add_50 ?_
    refine lv_aload_n hx hb d_RWr_add_53 rfl (lv_at hl 0 rfl) ?_
    refine va_get (D := D) (ci := 6) (v := .ref qs) (C := R_RWr) (T := T_RWr) (N := 2) hx hb hts inw_RWr hown hK hP 0 rfl rfl 0 (by decide) (hts (.fieldLink R_RWr 9 "LikelyBits$RawWriter" "segment" "LLikelyBits$Segment;") mw_128) (fun _ h9 => h9) rfl d_RWr_add_54 ?_
    refine kqi (va_runV (As := []) (rest := [.ref qs]) ⟨hx, hb, hml, hown, hts⟩ (c_Seg_last l hl9 D k qs qr qa a n f u L (by assumption)) (cwV 0 hts (gV mw_130 mw_68 mw_69 mw_53 mw_70) rfl rfl rfl (by decide +kernel) ⟨(Nat.le_of_ble_eq_true rfl), (Nat.le_of_ble_eq_true rfl)⟩) (kRecv (q := (R_Seg, T_Seg, 2)) (q0 := 1) (ci := 2) hK hP rfl rfl (kPreR (wc := [(qs, .inr (2, [.ref qr, .int a])), (qr, .inr (0, [.ref qa, .int u])), (qa, .inl (k.1, n, .inl f))]) hE hK hP hS [1, 2, 3] rfl)) rfl rfl hl.1 rfl (lv_room (Nat.le_of_ble_eq_true rfl)) d_RWr_add_57 ⟨(Nat.le_of_ble_eq_true rfl), (Nat.le_of_ble_eq_true rfl)⟩) hP hS (fun r3 H locs hw hP hS => ?_)
    replace hw := hw.symm
    subst hw
    refine lv_iload_n hx hb d_RWr_add_60 rfl (lv_at hl 1 rfl) ?_
    refine lv_aload_n hx hb d_RWr_add_61 rfl (lv_at hl 0 rfl) ?_
    refine va_get (D := D) (ci := 6) (v := .int x2) (C := R_RWr) (T := T_RWr) (N := 2) hx hb hts inw_RWr hown hK hP 0 rfl rfl 1 (by decide) (hts (.fieldLink R_RWr 15 "LikelyBits$RawWriter" "room" "I") mw_129) (fun _ h9 => h9) rfl d_RWr_add_62 ?_
    refine lv_ishl hx hb d_RWr_add_65 ?_
    refine lv_ior hx hb d_RWr_add_66 ?_
    refine kcv (wc := [(qs, .inr (2, [.ref qr, .int a])), (qr, .inr (0, [.ref qa, .int u])), (qa, .inl (k.1, n, .inl f))]) (wr := [(h0, .inr (6, [.ref qs, .int x2]))]) (va_runV (As := [.int ((sgl L a) ||| (b <<< (x2 &&& 31)))]) (rest := []) ⟨hx, hb, hml, hown, hts⟩ (c_Seg_changeLast l hl9 D k qs qr qa H.size a n f u L ((sgl L a) ||| (b <<< (x2 &&& 31))) (by assumption)) (cwV 1 hts (gV mw_131 mw_89 mw_90 mw_53 mw_91) rfl rfl rfl (by decide +kernel) ⟨(Nat.le_of_ble_eq_true rfl), (Nat.le_of_ble_eq_true rfl)⟩) (kRecv (q := (R_Seg, T_Seg, 2)) (q0 := 1) (ci := 2) hK hP rfl rfl (kPre (wc := [(qs, .inr (2, [.ref qr, .int a])), (qr, .inr (0, [.ref qa, .int u])), (qa, .inl (k.1, n, .inl f))]) hE hK hP hD hS hA [1, 2, 3] rfl (by decide))) rfl rfl hl.1 rfl (lv_room (Nat.le_of_ble_eq_true rfl)) d_RWr_add_67 ⟨(Nat.le_of_ble_eq_true rfl), (Nat.le_of_ble_eq_true rfl)⟩) hP hD hS hA [1, 2, 3] [0] rfl rfl (by decide) (by decide) (fun zz uu H locs hw7 hz8 hP hD hS => ?_)
    obtain ⟨f_5, rfl⟩ : ∃ y, y = zz := ⟨_, rfl⟩
    obtain ⟨L_4, rfl⟩ : ∃ y, y = uu := ⟨_, rfl⟩
    have hw7 : L_4 = sgc L a ((sgl L a) ||| (b <<< (x2 &&& 31))) := hw7
    have hz8 : row_ok n f_5 u L_4 := hz8
    have hP : va_P D vwCl [(h0, .inr (6, [.ref qs, .int x2])), (qs, .inr (2, [.ref qr, .int a])), (qr, .inr (0, [.ref qa, .int u])), (qa, .inl (k.1, n, .inl f_5))] H := hP
    have hD : va_D A [(h0, .inr (6, [.ref qs, .int x2])), (qs, .inr (2, [.ref qr, .int a])), (qr, .inr (0, [.ref qa, .int u])), (qa, .inl (k.1, n, .inl f_5))] := hD
    exact krv (wo := wo_RWr_add k h0 qs qr qa rm a n f u L b) hx hb hr hlk hP hD hS (x2, n, L_4) (qa, f_5, u) (by obtain rfl := hw7; subst ex2; simp [po_RWr_add, rad, ra2, c1]) (by assumption) [0, 1, 2, 3] rfl (by decide) (by first | omega | (dsimp only; omega)) (by first | omega | (dsimp only; omega)) d_RWr_add_70
  · refine lv_aload_n hx hb d_RWr_add_7 rfl (lv_at hl 0 rfl) ?_
    refine lv_aload_n hx hb d_RWr_add_8 rfl (lv_at hl 0 rfl) ?_
    refine va_get (D := D) (ci := 6) (v := .ref qs) (C := R_RWr) (T := T_RWr) (N := 2) hx hb hts inw_RWr hown hK hP 0 rfl rfl 0 (by decide) (hts (.fieldLink R_RWr 9 "LikelyBits$RawWriter" "segment" "LLikelyBits$Segment;") mw_128) (fun _ h9 => h9) rfl d_RWr_add_9 ?_
    refine kqi (va_runV (As := []) (rest := [.ref h0]) ⟨hx, hb, hml, hown, hts⟩ (c_Seg_last l hl9 D k qs qr qa a n f u L (by assumption)) (cwV 0 hts (gV mw_130 mw_68 mw_69 mw_53 mw_70) rfl rfl rfl (by decide +kernel) ⟨(Nat.le_of_ble_eq_true rfl), (Nat.le_of_ble_eq_true rfl)⟩) (kRecv (q := (R_Seg, T_Seg, 2)) (q0 := 1) (ci := 2) hK hP rfl rfl (kPreR (wc := [(qs, .inr (2, [.ref qr, .int a])), (qr, .inr (0, [.ref qa, .int u])), (qa, .inl (k.1, n, .inl f))]) hE hK hP hS [1, 2, 3] rfl)) rfl rfl hl.1 rfl (lv_room (Nat.le_of_ble_eq_true rfl)) d_RWr_add_12 ⟨(Nat.le_of_ble_eq_true rfl), (Nat.le_of_ble_eq_true rfl)⟩) hP hS (fun r9 H locs hw hP hS => ?_)
    replace hw := hw.symm
    subst hw
    refine lv_sipush (v := 255) hx hb d_RWr_add_15 (by decide) ?_
    refine lv_icmp_ne (tgt := 26) hx hb d_RWr_add_18 (by decide) (fun c10 => ?_) (fun c10 => ?_)
    · refine lv_bipush (v := 8) hx hb d_RWr_add_26 (by decide) ?_
      refine va_put (D := D) (ci := 6) (v := .int 8) (ty := .int) (C := R_RWr) (T := T_RWr) (N := 2) hx hb hts inw_RWr ty_RWr tyok_RWr nm_RWr hown hK hP hD hS 0 rfl rfl 1 (by decide) (hts (.fieldLink R_RWr 15 "LikelyBits$RawWriter" "room" "I") mw_129) (fun _ h9 => h9) rfl (by decide +kernel) rfl rfl (Nat.le_of_ble_eq_true rfl) d_RWr_add_28 (fun H locs hP hD hS => ?_)
      have hP : va_P D vwCl [(h0, .inr (6, [.ref qs, .int 8])), (qs, .inr (2, [.ref qr, .int a])), (qr, .inr (0, [.ref qa, .int u])), (qa, .inl (k.1, n, .inl f))] H := hP
      have hD : va_D A [(h0, .inr (6, [.ref qs, .int 8])), (qs, .inr (2, [.ref qr, .int a])), (qr, .inr (0, [.ref qa, .int u])), (qa, .inl (k.1, n, .inl f))] := hD
      refine lv_aload_n hx hb d_RWr_add_31 rfl (lv_at hl 0 rfl) ?_
      refine va_get (D := D) (ci := 6) (v := .ref qs) (C := R_RWr) (T := T_RWr) (N := 2) hx hb hts inw_RWr hown hK hP 0 rfl rfl 0 (by decide) (hts (.fieldLink R_RWr 9 "LikelyBits$RawWriter" "segment" "LLikelyBits$Segment;") mw_128) (fun _ h9 => h9) rfl d_RWr_add_32 ?_
      refine lv_iconst (v := 0) hx hb d_RWr_add_35 (by decide) ?_
      have hbn : (rad a rm n L b).2.1 = apn n L := (by simp [rad, ra2, c1, c10])
      refine kcv (wc := [(qs, .inr (2, [.ref qr, .int a])), (qr, .inr (0, [.ref qa, .int u])), (qa, .inl (k.1, n, .inl f))]) (wr := [(h0, .inr (6, [.ref qs, .int 8]))]) (va_runV (As := [.int 0]) (rest := []) ⟨hx, hb, hml, hown, hts⟩ (c_Seg_append l hl9 D k qs qr qa H.size a n f u L 0 (by assumption)) (cwV 1 hts (gV mw_132 mw_84 mw_85 mw_53 mw_86) rfl rfl rfl (by decide +kernel) ⟨(Nat.le_of_ble_eq_true rfl), (Nat.le_of_ble_eq_true rfl)⟩) (kRecv (q := (R_Seg, T_Seg, 2)) (q0 := 1) (ci := 2) hK hP rfl rfl (kPre (wc := [(qs, .inr (2, [.ref qr, .int a])), (qr, .inr (0, [.ref qa, .int u])), (qa, .inl (k.1, n, .inl f))]) hE hK hP hD hS hA [1, 2, 3] rfl (by decide))) rfl rfl hl.1 rfl (lv_room (Nat.le_of_ble_eq_true rfl)) d_RWr_add_36 ⟨(by first | omega | (dsimp only; omega)), (by first | omega | (dsimp only; omega))⟩) hP hD hS hA [1, 2, 3] [0] rfl rfl (by decide) (by decide) (fun zz uu H locs hw17 hz18 hP hD hS => ?_)
      obtain ⟨q_13, f_14, u_15⟩ := zz
      obtain ⟨n_11, L_12⟩ := uu
      have hw17 : n_11 = apn n L ∧ L_12 = app L 0 := hw17
      have hz18 : row_ok n_11 f_14 u_15 L_12 := hz18
      have hP : va_P D vwCl [(h0, .inr (6, [.ref qs, .int 8])), (qs, .inr (2, [.ref qr, .int a])), (qr, .inr (0, [.ref q_13, .int u_15])), (q_13, .inl (k.1, n_11, .inl f_14))] H := hP
      have hD : va_D A [(h0, .inr (6, [.ref qs, .int 8])), (qs, .inr (2, [.ref qr, .int a])), (qr, .inr (0, [.ref q_13, .int u_15])), (q_13, .inl (k.1, n_11, .inl f_14))] := hD
      refine lv_aload_n hx hb d_RWr_add_39 rfl (lv_at hl 0 rfl) ?_
      refine lv_dup hx hb d_RWr_add_40 rfl ?_
      refine va_get (D := D) (ci := 6) (v := .int 8) (C := R_RWr) (T := T_RWr) (N := 2) hx hb hts inw_RWr hown hK hP 0 rfl rfl 1 (by decide) (hts (.fieldLink R_RWr 15 "LikelyBits$RawWriter" "room" "I") mw_129) (fun _ h9 => h9) rfl d_RWr_add_41 ?_
      refine lv_iconst (v := 1) hx hb d_RWr_add_44 (by decide) ?_
      refine lv_isub hx hb d_RWr_add_45 ?_
      refine lv_topi (fun x19 ex19 => ?_)
      refine va_put (D := D) (ci := 6) (v := .int x19) (ty := .int) (C := R_RWr) (T := T_RWr) (N := 2) hx hb hts inw_RWr ty_RWr tyok_RWr nm_RWr hown hK hP hD hS 0 rfl rfl 1 (by decide) (hts (.fieldLink R_RWr 15 "LikelyBits$RawWriter" "room" "I") mw_129) (fun _ h9 => h9) rfl (by decide +kernel) rfl rfl (Nat.le_of_ble_eq_true rfl) d_RWr_add_46 (fun H locs hP hD hS => ?_)
      have hP : va_P D vwCl [(h0, .inr (6, [.ref qs, .int x19])), (qs, .inr (2, [.ref qr, .int a])), (qr, .inr (0, [.ref q_13, .int u_15])), (q_13, .inl (k.1, n_11, .inl f_14))] H := hP
      have hD : va_D A [(h0, .inr (6, [.ref qs, .int x19])), (qs, .inr (2, [.ref qr, .int a])), (qr, .inr (0, [.ref q_13, .int u_15])), (q_13, .inl (k.1, n_11, .inl f_14))] := hD
      refine lv_aload_n hx hb d_RWr_add_49 rfl (lv_at hl 0 rfl) ?_
      refine va_get (D := D) (ci := 6) (v := .ref qs) (C := R_RWr) (T := T_RWr) (N := 2) hx hb hts inw_RWr hown hK hP 0 rfl rfl 0 (by decide) (hts (.fieldLink R_RWr 9 "LikelyBits$RawWriter" "segment" "LLikelyBits$Segment;") mw_128) (fun _ h9 => h9) rfl d_RWr_add_50 ?_
      refine lv_aload_n hx hb d_RWr_add_53 rfl (lv_at hl 0 rfl) ?_
      refine va_get (D := D) (ci := 6) (v := .ref qs) (C := R_RWr) (T := T_RWr) (N := 2) hx hb hts inw_RWr hown hK hP 0 rfl rfl 0 (by decide) (hts (.fieldLink R_RWr 9 "LikelyBits$RawWriter" "segment" "LLikelyBits$Segment;") mw_128) (fun _ h9 => h9) rfl d_RWr_add_54 ?_
      refine kqi (va_runV (As := []) (rest := [.ref qs]) ⟨hx, hb, hml, hown, hts⟩ (c_Seg_last l hl9 D k qs qr q_13 a n_11 f_14 u_15 L_12 (by assumption)) (cwV 0 hts (gV mw_130 mw_68 mw_69 mw_53 mw_70) rfl rfl rfl (by decide +kernel) ⟨(Nat.le_of_ble_eq_true rfl), (Nat.le_of_ble_eq_true rfl)⟩) (kRecv (q := (R_Seg, T_Seg, 2)) (q0 := 1) (ci := 2) hK hP rfl rfl (kPreR (wc := [(qs, .inr (2, [.ref qr, .int a])), (qr, .inr (0, [.ref q_13, .int u_15])), (q_13, .inl (k.1, n_11, .inl f_14))]) hE hK hP hS [1, 2, 3] rfl)) rfl rfl hl.1 rfl (lv_room (Nat.le_of_ble_eq_true rfl)) d_RWr_add_57 ⟨(by first | omega | (dsimp only; omega)), (by first | omega | (dsimp only; omega))⟩) hP hS (fun r20 H locs hw hP hS => ?_)
      replace hw := hw.symm
      subst hw
      refine lv_iload_n hx hb d_RWr_add_60 rfl (lv_at hl 1 rfl) ?_
      refine lv_aload_n hx hb d_RWr_add_61 rfl (lv_at hl 0 rfl) ?_
      refine va_get (D := D) (ci := 6) (v := .int x19) (C := R_RWr) (T := T_RWr) (N := 2) hx hb hts inw_RWr hown hK hP 0 rfl rfl 1 (by decide) (hts (.fieldLink R_RWr 15 "LikelyBits$RawWriter" "room" "I") mw_129) (fun _ h9 => h9) rfl d_RWr_add_62 ?_
      refine lv_ishl hx hb d_RWr_add_65 ?_
      refine lv_ior hx hb d_RWr_add_66 ?_
      refine kcv (wc := [(qs, .inr (2, [.ref qr, .int a])), (qr, .inr (0, [.ref q_13, .int u_15])), (q_13, .inl (k.1, n_11, .inl f_14))]) (wr := [(h0, .inr (6, [.ref qs, .int x19]))]) (va_runV (As := [.int ((sgl L_12 a) ||| (b <<< (x19 &&& 31)))]) (rest := []) ⟨hx, hb, hml, hown, hts⟩ (c_Seg_changeLast l hl9 D k qs qr q_13 H.size a n_11 f_14 u_15 L_12 ((sgl L_12 a) ||| (b <<< (x19 &&& 31))) (by assumption)) (cwV 1 hts (gV mw_131 mw_89 mw_90 mw_53 mw_91) rfl rfl rfl (by decide +kernel) ⟨(Nat.le_of_ble_eq_true rfl), (Nat.le_of_ble_eq_true rfl)⟩) (kRecv (q := (R_Seg, T_Seg, 2)) (q0 := 1) (ci := 2) hK hP rfl rfl (kPre (wc := [(qs, .inr (2, [.ref qr, .int a])), (qr, .inr (0, [.ref q_13, .int u_15])), (q_13, .inl (k.1, n_11, .inl f_14))]) hE hK hP hD hS hA [1, 2, 3] rfl (by decide))) rfl rfl hl.1 rfl (lv_room (Nat.le_of_ble_eq_true rfl)) d_RWr_add_67 ⟨(by first | omega | (dsimp only; omega)), (by first | omega | (dsimp only; omega))⟩) hP hD hS hA [1, 2, 3] [0] rfl rfl (by decide) (by decide) (fun zz uu H locs hw24 hz25 hP hD hS => ?_)
      obtain ⟨f_22, rfl⟩ : ∃ y, y = zz := ⟨_, rfl⟩
      obtain ⟨L_21, rfl⟩ : ∃ y, y = uu := ⟨_, rfl⟩
      have hw24 : L_21 = sgc L_12 a ((sgl L_12 a) ||| (b <<< (x19 &&& 31))) := hw24
      have hz25 : row_ok n_11 f_22 u_15 L_21 := hz25
      have hP : va_P D vwCl [(h0, .inr (6, [.ref qs, .int x19])), (qs, .inr (2, [.ref qr, .int a])), (qr, .inr (0, [.ref q_13, .int u_15])), (q_13, .inl (k.1, n_11, .inl f_22))] H := hP
      have hD : va_D A [(h0, .inr (6, [.ref qs, .int x19])), (qs, .inr (2, [.ref qr, .int a])), (qr, .inr (0, [.ref q_13, .int u_15])), (q_13, .inl (k.1, n_11, .inl f_22))] := hD
      exact krv (wo := wo_RWr_add k h0 qs qr qa rm a n f u L b) hx hb hr hlk hP hD hS (x19, n_11, L_21) (q_13, f_22, u_15) (by obtain rfl := hw24; subst ex19; obtain ⟨rfl, rfl⟩ := hw17; simp [po_RWr_add, rad, ra2, c1, c10]) (by assumption) [0, 1, 2, 3] rfl (by decide) (by first | omega | (dsimp only; omega)) (by first | omega | (dsimp only; omega)) d_RWr_add_70
    · refine lv_bipush (v := 7) hx hb d_RWr_add_21 (by decide) ?_
      refine lv_goto (tgt := 28) hx hb d_RWr_add_23 (by decide) ?_
      refine va_put (D := D) (ci := 6) (v := .int 7) (ty := .int) (C := R_RWr) (T := T_RWr) (N := 2) hx hb hts inw_RWr ty_RWr tyok_RWr nm_RWr hown hK hP hD hS 0 rfl rfl 1 (by decide) (hts (.fieldLink R_RWr 15 "LikelyBits$RawWriter" "room" "I") mw_129) (fun _ h9 => h9) rfl (by decide +kernel) rfl rfl (Nat.le_of_ble_eq_true rfl) d_RWr_add_28 (fun H locs hP hD hS => ?_)
      have hP : va_P D vwCl [(h0, .inr (6, [.ref qs, .int 7])), (qs, .inr (2, [.ref qr, .int a])), (qr, .inr (0, [.ref qa, .int u])), (qa, .inl (k.1, n, .inl f))] H := hP
      have hD : va_D A [(h0, .inr (6, [.ref qs, .int 7])), (qs, .inr (2, [.ref qr, .int a])), (qr, .inr (0, [.ref qa, .int u])), (qa, .inl (k.1, n, .inl f))] := hD
      refine lv_aload_n hx hb d_RWr_add_31 rfl (lv_at hl 0 rfl) ?_
      refine va_get (D := D) (ci := 6) (v := .ref qs) (C := R_RWr) (T := T_RWr) (N := 2) hx hb hts inw_RWr hown hK hP 0 rfl rfl 0 (by decide) (hts (.fieldLink R_RWr 9 "LikelyBits$RawWriter" "segment" "LLikelyBits$Segment;") mw_128) (fun _ h9 => h9) rfl d_RWr_add_32 ?_
      refine lv_iconst (v := 0) hx hb d_RWr_add_35 (by decide) ?_
      have hbn : (rad a rm n L b).2.1 = apn n L := (by simp [rad, ra2, c1, c10])
      refine kcv (wc := [(qs, .inr (2, [.ref qr, .int a])), (qr, .inr (0, [.ref qa, .int u])), (qa, .inl (k.1, n, .inl f))]) (wr := [(h0, .inr (6, [.ref qs, .int 7]))]) (va_runV (As := [.int 0]) (rest := []) ⟨hx, hb, hml, hown, hts⟩ (c_Seg_append l hl9 D k qs qr qa H.size a n f u L 0 (by assumption)) (cwV 1 hts (gV mw_132 mw_84 mw_85 mw_53 mw_86) rfl rfl rfl (by decide +kernel) ⟨(Nat.le_of_ble_eq_true rfl), (Nat.le_of_ble_eq_true rfl)⟩) (kRecv (q := (R_Seg, T_Seg, 2)) (q0 := 1) (ci := 2) hK hP rfl rfl (kPre (wc := [(qs, .inr (2, [.ref qr, .int a])), (qr, .inr (0, [.ref qa, .int u])), (qa, .inl (k.1, n, .inl f))]) hE hK hP hD hS hA [1, 2, 3] rfl (by decide))) rfl rfl hl.1 rfl (lv_room (Nat.le_of_ble_eq_true rfl)) d_RWr_add_36 ⟨(by first | omega | (dsimp only; omega)), (by first | omega | (dsimp only; omega))⟩) hP hD hS hA [1, 2, 3] [0] rfl rfl (by decide) (by decide) (fun zz uu H locs hw32 hz33 hP hD hS => ?_)
      obtain ⟨q_28, f_29, u_30⟩ := zz
      obtain ⟨n_26, L_27⟩ := uu
      have hw32 : n_26 = apn n L ∧ L_27 = app L 0 := hw32
      have hz33 : row_ok n_26 f_29 u_30 L_27 := hz33
      have hP : va_P D vwCl [(h0, .inr (6, [.ref qs, .int 7])), (qs, .inr (2, [.ref qr, .int a])), (qr, .inr (0, [.ref q_28, .int u_30])), (q_28, .inl (k.1, n_26, .inl f_29))] H := hP
      have hD : va_D A [(h0, .inr (6, [.ref qs, .int 7])), (qs, .inr (2, [.ref qr, .int a])), (qr, .inr (0, [.ref q_28, .int u_30])), (q_28, .inl (k.1, n_26, .inl f_29))] := hD
      refine lv_aload_n hx hb d_RWr_add_39 rfl (lv_at hl 0 rfl) ?_
      refine lv_dup hx hb d_RWr_add_40 rfl ?_
      refine va_get (D := D) (ci := 6) (v := .int 7) (C := R_RWr) (T := T_RWr) (N := 2) hx hb hts inw_RWr hown hK hP 0 rfl rfl 1 (by decide) (hts (.fieldLink R_RWr 15 "LikelyBits$RawWriter" "room" "I") mw_129) (fun _ h9 => h9) rfl d_RWr_add_41 ?_
      refine lv_iconst (v := 1) hx hb d_RWr_add_44 (by decide) ?_
      refine lv_isub hx hb d_RWr_add_45 ?_
      refine lv_topi (fun x34 ex34 => ?_)
      refine va_put (D := D) (ci := 6) (v := .int x34) (ty := .int) (C := R_RWr) (T := T_RWr) (N := 2) hx hb hts inw_RWr ty_RWr tyok_RWr nm_RWr hown hK hP hD hS 0 rfl rfl 1 (by decide) (hts (.fieldLink R_RWr 15 "LikelyBits$RawWriter" "room" "I") mw_129) (fun _ h9 => h9) rfl (by decide +kernel) rfl rfl (Nat.le_of_ble_eq_true rfl) d_RWr_add_46 (fun H locs hP hD hS => ?_)
      have hP : va_P D vwCl [(h0, .inr (6, [.ref qs, .int x34])), (qs, .inr (2, [.ref qr, .int a])), (qr, .inr (0, [.ref q_28, .int u_30])), (q_28, .inl (k.1, n_26, .inl f_29))] H := hP
      have hD : va_D A [(h0, .inr (6, [.ref qs, .int x34])), (qs, .inr (2, [.ref qr, .int a])), (qr, .inr (0, [.ref q_28, .int u_30])), (q_28, .inl (k.1, n_26, .inl f_29))] := hD
      refine lv_aload_n hx hb d_RWr_add_49 rfl (lv_at hl 0 rfl) ?_
      refine va_get (D := D) (ci := 6) (v := .ref qs) (C := R_RWr) (T := T_RWr) (N := 2) hx hb hts inw_RWr hown hK hP 0 rfl rfl 0 (by decide) (hts (.fieldLink R_RWr 9 "LikelyBits$RawWriter" "segment" "LLikelyBits$Segment;") mw_128) (fun _ h9 => h9) rfl d_RWr_add_50 ?_
      refine lv_aload_n hx hb d_RWr_add_53 rfl (lv_at hl 0 rfl) ?_
      refine va_get (D := D) (ci := 6) (v := .ref qs) (C := R_RWr) (T := T_RWr) (N := 2) hx hb hts inw_RWr hown hK hP 0 rfl rfl 0 (by decide) (hts (.fieldLink R_RWr 9 "LikelyBits$RawWriter" "segment" "LLikelyBits$Segment;") mw_128) (fun _ h9 => h9) rfl d_RWr_add_54 ?_
      refine kqi (va_runV (As := []) (rest := [.ref qs]) ⟨hx, hb, hml, hown, hts⟩ (c_Seg_last l hl9 D k qs qr q_28 a n_26 f_29 u_30 L_27 (by assumption)) (cwV 0 hts (gV mw_130 mw_68 mw_69 mw_53 mw_70) rfl rfl rfl (by decide +kernel) ⟨(Nat.le_of_ble_eq_true rfl), (Nat.le_of_ble_eq_true rfl)⟩) (kRecv (q := (R_Seg, T_Seg, 2)) (q0 := 1) (ci := 2) hK hP rfl rfl (kPreR (wc := [(qs, .inr (2, [.ref qr, .int a])), (qr, .inr (0, [.ref q_28, .int u_30])), (q_28, .inl (k.1, n_26, .inl f_29))]) hE hK hP hS [1, 2, 3] rfl)) rfl rfl hl.1 rfl (lv_room (Nat.le_of_ble_eq_true rfl)) d_RWr_add_57 ⟨(by first | omega | (dsimp only; omega)), (by first | omega | (dsimp only; omega))⟩) hP hS (fun r35 H locs hw hP hS => ?_)
      replace hw := hw.symm
      subst hw
      refine lv_iload_n hx hb d_RWr_add_60 rfl (lv_at hl 1 rfl) ?_
      refine lv_aload_n hx hb d_RWr_add_61 rfl (lv_at hl 0 rfl) ?_
      refine va_get (D := D) (ci := 6) (v := .int x34) (C := R_RWr) (T := T_RWr) (N := 2) hx hb hts inw_RWr hown hK hP 0 rfl rfl 1 (by decide) (hts (.fieldLink R_RWr 15 "LikelyBits$RawWriter" "room" "I") mw_129) (fun _ h9 => h9) rfl d_RWr_add_62 ?_
      refine lv_ishl hx hb d_RWr_add_65 ?_
      refine lv_ior hx hb d_RWr_add_66 ?_
      refine kcv (wc := [(qs, .inr (2, [.ref qr, .int a])), (qr, .inr (0, [.ref q_28, .int u_30])), (q_28, .inl (k.1, n_26, .inl f_29))]) (wr := [(h0, .inr (6, [.ref qs, .int x34]))]) (va_runV (As := [.int ((sgl L_27 a) ||| (b <<< (x34 &&& 31)))]) (rest := []) ⟨hx, hb, hml, hown, hts⟩ (c_Seg_changeLast l hl9 D k qs qr q_28 H.size a n_26 f_29 u_30 L_27 ((sgl L_27 a) ||| (b <<< (x34 &&& 31))) (by assumption)) (cwV 1 hts (gV mw_131 mw_89 mw_90 mw_53 mw_91) rfl rfl rfl (by decide +kernel) ⟨(Nat.le_of_ble_eq_true rfl), (Nat.le_of_ble_eq_true rfl)⟩) (kRecv (q := (R_Seg, T_Seg, 2)) (q0 := 1) (ci := 2) hK hP rfl rfl (kPre (wc := [(qs, .inr (2, [.ref qr, .int a])), (qr, .inr (0, [.ref q_28, .int u_30])), (q_28, .inl (k.1, n_26, .inl f_29))]) hE hK hP hD hS hA [1, 2, 3] rfl (by decide))) rfl rfl hl.1 rfl (lv_room (Nat.le_of_ble_eq_true rfl)) d_RWr_add_67 ⟨(by first | omega | (dsimp only; omega)), (by first | omega | (dsimp only; omega))⟩) hP hD hS hA [1, 2, 3] [0] rfl rfl (by decide) (by decide) (fun zz uu H locs hw39 hz40 hP hD hS => ?_)
      obtain ⟨f_37, rfl⟩ : ∃ y, y = zz := ⟨_, rfl⟩
      obtain ⟨L_36, rfl⟩ : ∃ y, y = uu := ⟨_, rfl⟩
      have hw39 : L_36 = sgc L_27 a ((sgl L_27 a) ||| (b <<< (x34 &&& 31))) := hw39
      have hz40 : row_ok n_26 f_37 u_30 L_36 := hz40
      have hP : va_P D vwCl [(h0, .inr (6, [.ref qs, .int x34])), (qs, .inr (2, [.ref qr, .int a])), (qr, .inr (0, [.ref q_28, .int u_30])), (q_28, .inl (k.1, n_26, .inl f_37))] H := hP
      have hD : va_D A [(h0, .inr (6, [.ref qs, .int x34])), (qs, .inr (2, [.ref qr, .int a])), (qr, .inr (0, [.ref q_28, .int u_30])), (q_28, .inl (k.1, n_26, .inl f_37))] := hD
      exact krv (wo := wo_RWr_add k h0 qs qr qa rm a n f u L b) hx hb hr hlk hP hD hS (x34, n_26, L_36) (q_28, f_37, u_30) (by obtain rfl := hw39; subst ex34; obtain ⟨rfl, rfl⟩ := hw32; simp [po_RWr_add, rad, ra2, c1, c10]) (by assumption) [0, 1, 2, 3] rfl (by decide) (by first | omega | (dsimp only; omega)) (by first | omega | (dsimp only; omega)) d_RWr_add_70

def wo_RWr_end (k : gK) (h0 qs qr qa : Nat) (rm : Int32) (a : Int32) (n : Nat) (f : Nat → Int32) (u : Int32) (L : List Int32) (zz : Nat × (Nat → Int32) × Int32) (uu : Int32 × Nat × List Int32) : va_W := match zz, uu with
  | (q2, f2, u2), (rm2, n2, L2) => [(h0, .inr (6, [.ref qs, .int rm2])), (qs, .inr (2, [.ref qr, .int a])), (qr, .inr (0, [.ref q2, .int u2])), (q2, .inl (k.1, n2, .inl f2))]
def ex_RWr_end (k : gK) (h0 qs qr qa : Nat) (rm : Int32) (a : Int32) (n : Nat) (f : Nat → Int32) (u : Int32) (L : List Int32) (zz : Nat × (Nat → Int32) × Int32) (uu : Int32 × Nat × List Int32) : Prop := match zz, uu with
  | (q2, f2, u2), (rm2, n2, L2) => row_ok n2 f2 u2 L2
def po_RWr_end (k : gK) (h0 qs qr qa : Nat) (rm : Int32) (a : Int32) (n : Nat) (f : Nat → Int32) (u : Int32) (L : List Int32) (uu : Int32 × Nat × List Int32) : Prop := match uu with
  | (rm2, n2, L2) => rm2 = (rwe rm.toNatClampNeg a 0 rm n L).1 ∧ n2 = (rwe rm.toNatClampNeg a 0 rm n L).2.1 ∧ L2 = (rwe rm.toNatClampNeg a 0 rm n L).2.2
def qc_RWr_end (D : va_G) (k : gK) (h0 qs qr qa : Nat) (rm : Int32) (a : Int32) (n : Nat) (f : Nat → Int32) (u : Int32) (L : List Int32) (A : Nat → Prop) : Array Value → State → Outcome → State → Prop := va_Qv (po_RWr_end k h0 qs qr qa rm a n f u L) (fun uu t => ∃ zz, ex_RWr_end k h0 qs qr qa rm a n f u L zz uu ∧ GP D A (wo_RWr_end k h0 qs qr qa rm a n f u L zz uu) t) A
set_option maxHeartbeats 1000000 in
set_option maxRecDepth 100000 in
theorem lp_RWr_end_7 (l : Launch) (hl9 : l.stackTraces = false) (D : va_G) (k : gK) (h0 qs qr qa : Nat) (rm : Int32) (a : Int32) (n : Nat) (f : Nat → Int32) (u : Int32) (L : List Int32) {p : Program} {e : Env} {s : State} {m : MethodId} {below : List Frame} {meth : Method} {c : Code} {A : Nat → Prop} (Cc : Cx p s m ([.ref h0] : List Value).toArray meth c b_RWr_end 3 none y_RWr_end.cls y_RWr_end.name D k A) (hA : ∀ q : Nat, s.heap.size ≤ q → A q) :
    ∀ (t : Nat) (i1 : Int32) (rm1 : Int32) (qa1 : Nat) (n1 : Nat) (f1 : Nat → Int32) (u1 : Int32) (L1 : List Int32), (row_ok n1 f1 u1 L1) → (rwe rm.toNatClampNeg a 0 rm n L = rwe t a i1 rm1 n1 L1) → (i1 = nI (rm.toNatClampNeg - t)) → (t ≤ rm.toNatClampNeg) → ∀ (H : Heap) (locs : List Loc) (cells slots : Nat), cells ≤ n1 - n ∧ slots ≤ 2 * (n1 - n) ∧ n ≤ n1 → va_P D vwCl [(h0, .inr (6, [.ref qs, .int rm1])), (qs, .inr (2, [.ref qr, .int a])), (qr, .inr (0, [.ref qa1, .int u1])), (qa1, .inl (k.1, n1, .inl f1))] H → va_D A [(h0, .inr (6, [.ref qs, .int rm1])), (qs, .inr (2, [.ref qr, .int a])), (qr, .inr (0, [.ref qa1, .int u1])), (qa1, .inl (k.1, n1, .inl f1))] → va_S A s.heap H locs → ∀ ls : Array Slot, lv_has ls 3 [(2, .int i1), (1, .int rm), (0, .ref h0)] → W p l e ({ frames := 5, cells := (rwe rm.toNatClampNeg a 0 rm n L).2.1 - n, slots := 2 * ((rwe rm.toNatClampNeg a 0 rm n L).2.1 - n), locals := 145 }) s m ([.ref h0] : List Value).toArray below meth c H locs cells slots (MQ below (qc_RWr_end D k h0 qs qr qa rm a n f u L A) ([.ref h0] : List Value).toArray s ((rwe rm.toNatClampNeg a 0 rm n L).2.1 - n) (2 * ((rwe rm.toNatClampNeg a 0 rm n L).2.1 - n)) A) (F0 m 7 ls []) := by
  have Cc9 := Cc
  obtain ⟨hx, hb, hml, hr, hlk, hown, hts, hK, hE, hin⟩ := Cc
  intro t
  induction t with
  | zero =>
    intro i1 rm1 qa1 n1 f1 u1 L1 hR1 hF hi ht H locs cells slots hrm hP hD hS ls hl
    refine lv_iload_n hx hb d_RWr_end_7 rfl (lv_at hl 0 rfl) ?_
    refine lv_iload_n hx hb d_RWr_end_8 rfl (lv_at hl 1 rfl) ?_
    refine lv_icmp_ge (tgt := 25) hx hb d_RWr_end_9 (by decide) (fun c1 => ?_) (fun c1 => ?_)
    · exact krv (wo := wo_RWr_end k h0 qs qr qa rm a n f u L) hx hb hr hlk hP hD hS (rm1, n1, L1) (qa1, f1, u1) (by simp only [po_RWr_end]; rw [hF]; simp [rwe]) hR1 [0, 1, 2, 3] rfl (by decide) (by rw [hF]; simp only [rwe]; omega) (by rw [hF]; simp only [rwe]; omega) d_RWr_end_25
    · exact absurd (by rw [hi]; exact gap_out) c1
  | succ t ih =>
    intro i1 rm1 qa1 n1 f1 u1 L1 hR1 hF hi ht H locs cells slots hrm hP hD hS ls hl
    refine lv_iload_n hx hb d_RWr_end_7 rfl (lv_at hl 0 rfl) ?_
    refine lv_iload_n hx hb d_RWr_end_8 rfl (lv_at hl 1 rfl) ?_
    refine lv_icmp_ge (tgt := 25) hx hb d_RWr_end_9 (by decide) (fun c2 => ?_) (fun c2 => ?_)
    · exact absurd (by rw [hi] at c2; exact c2) (gap_in ht)
    · refine lv_aload_n hx hb d_RWr_end_12 rfl (lv_at hl 2 rfl) ?_
      refine lv_iload_n hx hb d_RWr_end_13 rfl (lv_at hl 0 rfl) ?_
      refine lv_iconst (v := 1) hx hb d_RWr_end_14 (by decide) ?_
      refine lv_iand hx hb d_RWr_end_15 ?_
      have hb1 := rad_le a rm1 n1 L1 (i1 &&& 1)
      have hb2 : (rad a rm1 n1 L1 (i1 &&& 1)).2.1 ≤ (rwe rm.toNatClampNeg a 0 rm n L).2.1 := by rw [hF, rwe]; exact rwe_le _ _ _ _ _ _
      refine kcv (wc := [(h0, .inr (6, [.ref qs, .int rm1])), (qs, .inr (2, [.ref qr, .int a])), (qr, .inr (0, [.ref qa1, .int u1])), (qa1, .inl (k.1, n1, .inl f1))]) (wr := []) (va_runV (As := [.int (i1 &&& 1)]) (rest := []) ⟨hx, hb, hml, hown, hts⟩ (c_RWr_add l hl9 D k h0 qs qr qa1 H.size rm1 a n1 f1 u1 L1 (i1 &&& 1) (by assumption)) (cwV 1 hts (gV mw_133 mw_134 mw_135 mw_136 mw_137) rfl rfl rfl (by decide +kernel) ⟨(Nat.le_of_ble_eq_true rfl), (Nat.le_of_ble_eq_true rfl)⟩) (kRecv (q := (R_RWr, T_RWr, 2)) (q0 := 0) (ci := 6) hK hP rfl rfl (kPre (wc := [(h0, .inr (6, [.ref qs, .int rm1])), (qs, .inr (2, [.ref qr, .int a])), (qr, .inr (0, [.ref qa1, .int u1])), (qa1, .inl (k.1, n1, .inl f1))]) hE hK hP hD hS hA [0, 1, 2, 3] rfl (by decide))) rfl rfl hl.1 rfl (lv_room (Nat.le_of_ble_eq_true rfl)) d_RWr_end_16 ⟨(by first | omega | (dsimp only; omega)), (by first | omega | (dsimp only; omega))⟩) hP hD hS hA [0, 1, 2, 3] [] rfl rfl (by decide) (by decide) (fun zz uu H locs hw10 hz11 hP hD hS => ?_)
      obtain ⟨q_6, f_7, u_8⟩ := zz
      obtain ⟨rm_3, n_4, L_5⟩ := uu
      have hw10 : rm_3 = (rad a rm1 n1 L1 (i1 &&& 1)).1 ∧ n_4 = (rad a rm1 n1 L1 (i1 &&& 1)).2.1 ∧ L_5 = (rad a rm1 n1 L1 (i1 &&& 1)).2.2 := hw10
      have hz11 : row_ok n_4 f_7 u_8 L_5 := hz11
      have hP : va_P D vwCl [(h0, .inr (6, [.ref qs, .int rm_3])), (qs, .inr (2, [.ref qr, .int a])), (qr, .inr (0, [.ref q_6, .int u_8])), (q_6, .inl (k.1, n_4, .inl f_7))] H := hP
      have hD : va_D A [(h0, .inr (6, [.ref qs, .int rm_3])), (qs, .inr (2, [.ref qr, .int a])), (qr, .inr (0, [.ref q_6, .int u_8])), (q_6, .inl (k.1, n_4, .inl f_7))] := hD
      obtain ⟨x12, ex12⟩ : ∃ y : Int32, y = i1 + 1 := ⟨_, rfl⟩
      refine lv_iinc (v := x12) (lv' := [(2, .int x12), (1, .int rm), (0, .ref h0)]) hx hb d_RWr_end_19 hl (k := 0) rfl (by rw [ex12]; rfl) (by decide) rfl (fun ls hl => ?_)
      refine lv_goto (tgt := 7) hx hb d_RWr_end_22 (by decide) ?_
      exact ih x12 rm_3 q_6 n_4 f_7 u_8 L_5 (by assumption) (by subst ex12; obtain ⟨rfl, rfl, rfl⟩ := hw10; rw [hF, rwe]) (by rw [ex12, hi, show rm.toNatClampNeg - t = (rm.toNatClampNeg - (t + 1)) + 1 by omega]; exact nI_1 _) (by omega) H _ _ _ (by exact ⟨by omega, by omega, by omega⟩) (ka_P hP (is := [0, 1, 2, 3]) rfl) (hD.sub [0, 1, 2, 3] (by decide) rfl) hS ls (lv_sub hl [0, 1, 2] rfl)
set_option maxHeartbeats 1000000 in
set_option maxRecDepth 100000 in
theorem c_RWr_end (l : Launch) (hl9 : l.stackTraces = false) (D : va_G) (k : gK) (h0 qs qr qa : Nat) (zsz : Nat) (rm : Int32) (a : Int32) (n : Nat) (f : Nat → Int32) (u : Int32) (L : List Int32) (hR : row_ok n f u L) : Met l y_RWr_end (.code y_RWr_end b_RWr_end 3 none :: AW) ({ frames := 5, cells := (rwe rm.toNatClampNeg a 0 rm n L).2.1 - n, slots := 2 * ((rwe rm.toNatClampNeg a 0 rm n L).2.1 - n), locals := 145 }) (va_Pc [.ref h0] (GG D k [(h0, .inr (6, [.ref qs, .int rm])), (qs, .inr (2, [.ref qr, .int a])), (qr, .inr (0, [.ref qa, .int u])), (qa, .inl (k.1, n, .inl f))] zsz)) (qc_RWr_end D k h0 qs qr qa rm a n f u L (va_A [(h0, .inr (6, [.ref qs, .int rm])), (qs, .inr (2, [.ref qr, .int a])), (qr, .inr (0, [.ref qa, .int u])), (qa, .inl (k.1, n, .inl f))] zsz)) ((rwe rm.toNatClampNeg a 0 rm n L).2.1 - n) (2 * ((rwe rm.toNatClampNeg a 0 rm n L).2.1 - n)) (va_A [(h0, .inr (6, [.ref qs, .int rm])), (qs, .inr (2, [.ref qr, .int a])), (qr, .inr (0, [.ref qa, .int u])), (qa, .inl (k.1, n, .inl f))] zsz) := by
  refine kMet (ws := [(h0, .inr (6, [.ref qs, .int rm])), (qs, .inr (2, [.ref qr, .int a])), (qr, .inr (0, [.ref qa, .int u])), (qa, .inl (k.1, n, .inl f))]) (Qc := qc_RWr_end D k h0 qs qr qa rm a n f u L) (by decide) (Nat.le_of_ble_eq_true rfl) (fun p e s m below meth c ls A H Cc hP hD hA hS hl => ?_)
  have Cc9 := Cc
  obtain ⟨hx, hb, hml, hr, hlk, hown, hts, hK, hE, hin⟩ := Cc
  have hl : lv_has ls 3 [(0, .ref h0)] := hl
  refine lv_aload_n hx hb d_RWr_end_0 rfl (lv_at hl 0 rfl) ?_
  refine va_get (D := D) (ci := 6) (v := .int rm) (C := R_RWr) (T := T_RWr) (N := 2) hx hb hts inw_RWr hown hK hP 0 rfl rfl 1 (by decide) (hts (.fieldLink R_RWr 15 "LikelyBits$RawWriter" "room" "I") mw_129) (fun _ h9 => h9) rfl d_RWr_end_1 ?_
  refine lv_istore_n (lv' := [(1, .int rm), (0, .ref h0)]) hx hb d_RWr_end_4 rfl hl (by decide) rfl (fun ls hl => ?_)
  refine lv_iconst (v := 0) hx hb d_RWr_end_5 (by decide) ?_
  refine lv_istore_n (lv' := [(2, .int 0), (1, .int rm), (0, .ref h0)]) hx hb d_RWr_end_6 rfl hl (by decide) rfl (fun ls hl => ?_)
  exact lp_RWr_end_7 l hl9 D k h0 qs qr qa rm a n f u L Cc9 hA rm.toNatClampNeg 0 rm qa n f u L hR rfl (by rw [Nat.sub_self]; rfl) (Nat.le_refl _) H _ _ _ ⟨Nat.zero_le _, Nat.zero_le _, Nat.le_refl _⟩ (ka_P hP (is := [0, 1, 2, 3]) rfl) (hD.sub [0, 1, 2, 3] (by decide) rfl) hS ls (lv_sub hl [0, 1, 2] rfl)

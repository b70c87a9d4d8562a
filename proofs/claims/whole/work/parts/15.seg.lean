set_option maxRecDepth 20000 in
theorem mw_42 : (Cond.methodLink R_Seg 3 objectInit) ∈ AW := inAW (List.mem_append_right _ (show _ ∈ tables_1_1 ++ (tables_1_2 ++ (tables_1_3 ++ tables_1_4)) from (List.mem_append_left _ (List.mem_of_getElem? (i := 61) rfl)))) rfl
set_option maxRecDepth 20000 in
theorem mw_43 : (Cond.fieldLink R_Seg 9 "LikelyBits$Segment" "row" "LLikelyBits$Row;") ∈ AW := inAW (List.mem_append_right _ (show _ ∈ tables_1_1 ++ (tables_1_2 ++ (tables_1_3 ++ tables_1_4)) from (List.mem_append_left _ (List.mem_of_getElem? (i := 62) rfl)))) rfl
set_option maxRecDepth 20000 in
theorem mw_44 : (Cond.methodLink R_Seg 15 y_Row_count) ∈ AW := inAW (List.mem_append_right _ (show _ ∈ tables_1_1 ++ (tables_1_2 ++ (tables_1_3 ++ tables_1_4)) from (List.mem_append_right _ (List.mem_append_left _ (List.mem_of_getElem? (i := 202) rfl))))) rfl
set_option maxRecDepth 20000 in
theorem mw_45 : (Cond.instanceMethod y_Row_count) ∈ AW := inAW (List.mem_append_right _ (show _ ∈ tables_1_1 ++ (tables_1_2 ++ (tables_1_3 ++ tables_1_4)) from (List.mem_append_right _ (List.mem_append_left _ (List.mem_of_getElem? (i := 82) rfl))))) rfl
set_option maxRecDepth 20000 in
theorem mw_46 : (Cond.selects R_Row y_Row_count y_Row_count) ∈ AW := inAW (List.mem_append_right _ (show _ ∈ tables_1_1 ++ (tables_1_2 ++ (tables_1_3 ++ tables_1_4)) from (List.mem_append_right _ (List.mem_append_left _ (List.mem_of_getElem? (i := 83) rfl))))) rfl
set_option maxRecDepth 20000 in
theorem mw_47 : (Cond.initialized R_Row) ∈ AW := inAW (List.mem_append_right _ (show _ ∈ tables_1_1 ++ (tables_1_2 ++ (tables_1_3 ++ tables_1_4)) from (List.mem_append_left _ (List.mem_of_getElem? (i := 2) rfl)))) rfl
set_option maxRecDepth 20000 in
theorem mw_48 : (Cond.code y_Row_count b_Row_count 1 (some .int)) ∈ AW := inAW (List.mem_append_right _ (show _ ∈ tables_1_1 ++ (tables_1_2 ++ (tables_1_3 ++ tables_1_4)) from (List.mem_append_right _ (List.mem_append_left _ (List.mem_of_getElem? (i := 84) rfl))))) rfl
set_option maxRecDepth 20000 in
theorem mw_49 : (Cond.fieldLink R_Seg 21 "LikelyBits$Segment" "start" "I") ∈ AW := inAW (List.mem_append_right _ (show _ ∈ tables_1_1 ++ (tables_1_2 ++ (tables_1_3 ++ tables_1_4)) from (List.mem_append_left _ (List.mem_of_getElem? (i := 63) rfl)))) rfl
set_option maxRecDepth 20000 in
theorem mw_50 : (Cond.methodLink R_Seg 25 y_Seg_length) ∈ AW := inAW (List.mem_append_right _ (show _ ∈ tables_1_1 ++ (tables_1_2 ++ (tables_1_3 ++ tables_1_4)) from (List.mem_append_right _ (List.mem_append_left _ (List.mem_of_getElem? (i := 235) rfl))))) rfl
set_option maxRecDepth 20000 in
theorem mw_51 : (Cond.instanceMethod y_Seg_length) ∈ AW := inAW (List.mem_append_right _ (show _ ∈ tables_1_1 ++ (tables_1_2 ++ (tables_1_3 ++ tables_1_4)) from (List.mem_append_right _ (List.mem_append_left _ (List.mem_of_getElem? (i := 236) rfl))))) rfl
set_option maxRecDepth 20000 in
theorem mw_52 : (Cond.selects R_Seg y_Seg_length y_Seg_length) ∈ AW := inAW (List.mem_append_right _ (show _ ∈ tables_1_1 ++ (tables_1_2 ++ (tables_1_3 ++ tables_1_4)) from (List.mem_append_right _ (List.mem_append_left _ (List.mem_of_getElem? (i := 237) rfl))))) rfl
set_option maxRecDepth 20000 in
theorem mw_53 : (Cond.initialized R_Seg) ∈ AW := inAW (List.mem_append_right _ (show _ ∈ tables_1_1 ++ (tables_1_2 ++ (tables_1_3 ++ tables_1_4)) from (List.mem_append_left _ (List.mem_of_getElem? (i := 4) rfl)))) rfl
set_option maxRecDepth 20000 in
theorem mw_54 : (Cond.code y_Seg_length b_Seg_length 1 (some .int)) ∈ AW := inAW (List.mem_append_right _ (show _ ∈ tables_1_1 ++ (tables_1_2 ++ (tables_1_3 ++ tables_1_4)) from (List.mem_append_right _ (List.mem_append_left _ (List.mem_of_getElem? (i := 238) rfl))))) rfl
set_option maxRecDepth 20000 in
theorem mw_55 : (Cond.methodLink R_Seg 28 y_Row_byteAt) ∈ AW := inAW (List.mem_append_right _ (show _ ∈ tables_1_1 ++ (tables_1_2 ++ (tables_1_3 ++ tables_1_4)) from (List.mem_append_right _ (List.mem_append_left _ (List.mem_of_getElem? (i := 239) rfl))))) rfl
set_option maxRecDepth 20000 in
theorem mw_56 : (Cond.instanceMethod y_Row_byteAt) ∈ AW := inAW (List.mem_append_right _ (show _ ∈ tables_1_1 ++ (tables_1_2 ++ (tables_1_3 ++ tables_1_4)) from (List.mem_append_right _ (List.mem_append_left _ (List.mem_of_getElem? (i := 149) rfl))))) rfl
set_option maxRecDepth 20000 in
theorem mw_57 : (Cond.selects R_Row y_Row_byteAt y_Row_byteAt) ∈ AW := inAW (List.mem_append_right _ (show _ ∈ tables_1_1 ++ (tables_1_2 ++ (tables_1_3 ++ tables_1_4)) from (List.mem_append_right _ (List.mem_append_left _ (List.mem_of_getElem? (i := 150) rfl))))) rfl
set_option maxRecDepth 20000 in
theorem mw_58 : (Cond.code y_Row_byteAt b_Row_byteAt 2 (some .int)) ∈ AW := inAW (List.mem_append_right _ (show _ ∈ tables_1_1 ++ (tables_1_2 ++ (tables_1_3 ++ tables_1_4)) from (List.mem_append_right _ (List.mem_append_left _ (List.mem_of_getElem? (i := 151) rfl))))) rfl
set_option maxRecDepth 20000 in
theorem mw_59 : (Cond.methodLink R_Seg 32 y_Row_change) ∈ AW := inAW (List.mem_append_right _ (show _ ∈ tables_1_1 ++ (tables_1_2 ++ (tables_1_3 ++ tables_1_4)) from (List.mem_append_right _ (List.mem_append_right _ (List.mem_append_left _ (List.mem_of_getElem? (i := 9) rfl)))))) rfl
set_option maxRecDepth 20000 in
theorem mw_60 : (Cond.instanceMethod y_Row_change) ∈ AW := inAW (List.mem_append_right _ (show _ ∈ tables_1_1 ++ (tables_1_2 ++ (tables_1_3 ++ tables_1_4)) from (List.mem_append_right _ (List.mem_append_right _ (List.mem_append_left _ (List.mem_of_getElem? (i := 10) rfl)))))) rfl
set_option maxRecDepth 20000 in
theorem mw_61 : (Cond.selects R_Row y_Row_change y_Row_change) ∈ AW := inAW (List.mem_append_right _ (show _ ∈ tables_1_1 ++ (tables_1_2 ++ (tables_1_3 ++ tables_1_4)) from (List.mem_append_right _ (List.mem_append_right _ (List.mem_append_left _ (List.mem_of_getElem? (i := 11) rfl)))))) rfl
set_option maxRecDepth 20000 in
theorem mw_62 : (Cond.code y_Row_change b_Row_change 3 none) ∈ AW := inAW (List.mem_append_right _ (show _ ∈ tables_1_1 ++ (tables_1_2 ++ (tables_1_3 ++ tables_1_4)) from (List.mem_append_right _ (List.mem_append_right _ (List.mem_append_left _ (List.mem_of_getElem? (i := 12) rfl)))))) rfl
set_option maxRecDepth 20000 in
theorem mw_63 : (Cond.methodLink R_Seg 36 y_Row_append) ∈ AW := inAW (List.mem_append_right _ (show _ ∈ tables_1_1 ++ (tables_1_2 ++ (tables_1_3 ++ tables_1_4)) from (List.mem_append_right _ (List.mem_append_right _ (List.mem_append_left _ (List.mem_of_getElem? (i := 4) rfl)))))) rfl
set_option maxRecDepth 20000 in
theorem mw_64 : (Cond.instanceMethod y_Row_append) ∈ AW := inAW (List.mem_append_right _ (show _ ∈ tables_1_1 ++ (tables_1_2 ++ (tables_1_3 ++ tables_1_4)) from (List.mem_append_right _ (List.mem_append_left _ (List.mem_of_getElem? (i := 103) rfl))))) rfl
set_option maxRecDepth 20000 in
theorem mw_65 : (Cond.selects R_Row y_Row_append y_Row_append) ∈ AW := inAW (List.mem_append_right _ (show _ ∈ tables_1_1 ++ (tables_1_2 ++ (tables_1_3 ++ tables_1_4)) from (List.mem_append_right _ (List.mem_append_left _ (List.mem_of_getElem? (i := 104) rfl))))) rfl
set_option maxRecDepth 20000 in
theorem mw_66 : (Cond.code y_Row_append b_Row_append 2 none) ∈ AW := inAW (List.mem_append_right _ (show _ ∈ tables_1_1 ++ (tables_1_2 ++ (tables_1_3 ++ tables_1_4)) from (List.mem_append_right _ (List.mem_append_left _ (List.mem_of_getElem? (i := 105) rfl))))) rfl
set_option maxRecDepth 20000 in
theorem mw_67 : (Cond.methodLink R_Seg 40 y_Seg_last) ∈ AW := inAW (List.mem_append_right _ (show _ ∈ tables_1_1 ++ (tables_1_2 ++ (tables_1_3 ++ tables_1_4)) from (List.mem_append_right _ (List.mem_append_right _ (List.mem_append_left _ (List.mem_of_getElem? (i := 100) rfl)))))) rfl
set_option maxRecDepth 20000 in
theorem mw_68 : (Cond.instanceMethod y_Seg_last) ∈ AW := inAW (List.mem_append_right _ (show _ ∈ tables_1_1 ++ (tables_1_2 ++ (tables_1_3 ++ tables_1_4)) from (List.mem_append_right _ (List.mem_append_left _ (List.mem_of_getElem? (i := 232) rfl))))) rfl
set_option maxRecDepth 20000 in
theorem mw_69 : (Cond.selects R_Seg y_Seg_last y_Seg_last) ∈ AW := inAW (List.mem_append_right _ (show _ ∈ tables_1_1 ++ (tables_1_2 ++ (tables_1_3 ++ tables_1_4)) from (List.mem_append_right _ (List.mem_append_left _ (List.mem_of_getElem? (i := 233) rfl))))) rfl
set_option maxRecDepth 20000 in
theorem mw_70 : (Cond.code y_Seg_last b_Seg_last 1 (some .int)) ∈ AW := inAW (List.mem_append_right _ (show _ ∈ tables_1_1 ++ (tables_1_2 ++ (tables_1_3 ++ tables_1_4)) from (List.mem_append_right _ (List.mem_append_left _ (List.mem_of_getElem? (i := 234) rfl))))) rfl
set_option maxRecDepth 20000 in
theorem mw_71 : (Cond.methodLink R_Seg 43 y_Row_dropLast) ∈ AW := inAW (List.mem_append_right _ (show _ ∈ tables_1_1 ++ (tables_1_2 ++ (tables_1_3 ++ tables_1_4)) from (List.mem_append_right _ (List.mem_append_right _ (List.mem_append_left _ (List.mem_of_getElem? (i := 101) rfl)))))) rfl
set_option maxRecDepth 20000 in
theorem mw_72 : (Cond.instanceMethod y_Row_dropLast) ∈ AW := inAW (List.mem_append_right _ (show _ ∈ tables_1_1 ++ (tables_1_2 ++ (tables_1_3 ++ tables_1_4)) from (List.mem_append_right _ (List.mem_append_right _ (List.mem_append_left _ (List.mem_of_getElem? (i := 102) rfl)))))) rfl
set_option maxRecDepth 20000 in
theorem mw_73 : (Cond.selects R_Row y_Row_dropLast y_Row_dropLast) ∈ AW := inAW (List.mem_append_right _ (show _ ∈ tables_1_1 ++ (tables_1_2 ++ (tables_1_3 ++ tables_1_4)) from (List.mem_append_right _ (List.mem_append_right _ (List.mem_append_left _ (List.mem_of_getElem? (i := 103) rfl)))))) rfl
set_option maxRecDepth 20000 in
theorem mw_74 : (Cond.code y_Row_dropLast b_Row_dropLast 1 none) ∈ AW := inAW (List.mem_append_right _ (show _ ∈ tables_1_1 ++ (tables_1_2 ++ (tables_1_3 ++ tables_1_4)) from (List.mem_append_right _ (List.mem_append_right _ (List.mem_append_left _ (List.mem_of_getElem? (i := 104) rfl)))))) rfl
def wo_Seg_init (k : gK) (h0 : Nat) (h1 : Nat) (zz : Unit) (uu : Unit) : va_W := match zz, uu with
  | _, _ => [(h0, .inr (2, [.ref h1, .int 0]))]
def ex_Seg_init (k : gK) (h0 : Nat) (h1 : Nat) (zz : Unit) (uu : Unit) : Prop := match zz, uu with
  | _, _ => True
def po_Seg_init (k : gK) (h0 : Nat) (h1 : Nat) (uu : Unit) : Prop := match uu with
  | _ => True
def qc_Seg_init (D : va_G) (k : gK) (h0 : Nat) (h1 : Nat) (A : Nat → Prop) : Array Value → State → Outcome → State → Prop := va_Qv (po_Seg_init k h0 h1) (fun uu t => ∃ zz, ex_Seg_init k h0 h1 zz uu ∧ GP D A (wo_Seg_init k h0 h1 zz uu) t) A
set_option maxHeartbeats 1000000 in
set_option maxRecDepth 100000 in
theorem c_Seg_init (l : Launch) (hl9 : l.stackTraces = false) (D : va_G) (k : gK) (h0 : Nat) (zsz : Nat) (h1 : Nat) : Met l y_Seg_init (.code y_Seg_init b_Seg_init 2 none :: AW) ({ frames := 1, cells := 0, slots := 0, locals := 22 }) (va_Pc [.ref h0, .ref h1] (GG D k [(h0, .inr (2, [.null, .int 0]))] zsz)) (qc_Seg_init D k h0 h1 (va_A [(h0, .inr (2, [.null, .int 0]))] zsz)) 0 0 (va_A [(h0, .inr (2, [.null, .int 0]))] zsz) := by
  refine kMet (ws := [(h0, .inr (2, [.null, .int 0]))]) (Qc := qc_Seg_init D k h0 h1) (by decide) (Nat.le_of_ble_eq_true rfl) (fun p e s m below meth c ls A H Cc hP hD hA hS hl => ?_)
  obtain ⟨hx, hb, hml, hr, hlk, hown, hts, hK, hE, hin⟩ := Cc
  have hl : lv_has ls 2 [(0, .ref h0), (1, .ref h1)] := hl
  refine lv_aload_n hx hb d_Seg_init_0 rfl (lv_at hl 0 rfl) ?_
  refine W.objInit hx hb hown (hts (.methodLink R_Seg 3 objectInit) mw_42) (hts (.instanceMethod objectInit) mw_3) (hts (.code objectInit ⟨#[0xb1]⟩ 1 none) mw_4) rfl (by rw [hml]; exact hl.1) rfl d_Seg_init_1 (Nat.le_of_ble_eq_true rfl) (Nat.le_of_ble_eq_true rfl) ?_
  refine W.eq (g2 := F0 m 4 ls []) rfl ?_
  refine lv_aload_n hx hb d_Seg_init_4 rfl (lv_at hl 0 rfl) ?_
  refine lv_aload_n hx hb d_Seg_init_5 rfl (lv_at hl 1 rfl) ?_
  refine va_putF (D := D) (ci := 2) (v := .ref h1) (ty := .object "LikelyBits$Row") (C := R_Seg) (T := T_Seg) (N := 2) hx hb hts inw_Seg ty_Seg tyok_Seg nm_Seg hown hK hP hD hS 0 rfl rfl 0 (by decide) (hts (.fieldLink R_Seg 9 "LikelyBits$Segment" "row" "LLikelyBits$Row;") mw_43) (fun _ h9 => h9) rfl hin rfl (by decide +kernel) rfl rfl (Nat.le_of_ble_eq_true rfl) d_Seg_init_6 (fun H locs hP hD hS => ?_)
  have hP : va_P D vwCl [(h0, .inr (2, [.ref h1, .int 0]))] H := hP
  have hD : va_D A [(h0, .inr (2, [.ref h1, .int 0]))] := hD
  exact krv (wo := wo_Seg_init k h0 h1) hx hb hr hlk hP hD hS () () trivial trivial [0] rfl (by decide) (Nat.le_of_ble_eq_true rfl) (Nat.le_of_ble_eq_true rfl) d_Seg_init_9

def wo_Seg_begin (k : gK) (h0 h1 : Nat) (a : Int32) (h2 : Nat) (u : Int32) (zz : Unit) (uu : Unit) : va_W := match zz, uu with
  | _, _ => [(h0, .inr (2, [.ref h1, .int u])), (h1, .inr (0, [.ref h2, .int u]))]
def ex_Seg_begin (k : gK) (h0 h1 : Nat) (a : Int32) (h2 : Nat) (u : Int32) (zz : Unit) (uu : Unit) : Prop := match zz, uu with
  | _, _ => True
def po_Seg_begin (k : gK) (h0 h1 : Nat) (a : Int32) (h2 : Nat) (u : Int32) (uu : Unit) : Prop := match uu with
  | _ => True
def qc_Seg_begin (D : va_G) (k : gK) (h0 h1 : Nat) (a : Int32) (h2 : Nat) (u : Int32) (A : Nat → Prop) : Array Value → State → Outcome → State → Prop := va_Qv (po_Seg_begin k h0 h1 a h2 u) (fun uu t => ∃ zz, ex_Seg_begin k h0 h1 a h2 u zz uu ∧ GP D A (wo_Seg_begin k h0 h1 a h2 u zz uu) t) A
set_option maxHeartbeats 1000000 in
set_option maxRecDepth 100000 in
theorem c_Seg_begin (l : Launch) (hl9 : l.stackTraces = false) (D : va_G) (k : gK) (h0 h1 : Nat) (zsz : Nat) (a : Int32) (h2 : Nat) (u : Int32) : Met l y_Seg_begin (.code y_Seg_begin b_Seg_begin 1 none :: AW) ({ frames := 1, cells := 0, slots := 0, locals := 20 }) (va_Pc [.ref h0] (GG D k [(h0, .inr (2, [.ref h1, .int a])), (h1, .inr (0, [.ref h2, .int u]))] zsz)) (qc_Seg_begin D k h0 h1 a h2 u (va_A [(h0, .inr (2, [.ref h1, .int a])), (h1, .inr (0, [.ref h2, .int u]))] zsz)) 0 0 (va_A [(h0, .inr (2, [.ref h1, .int a])), (h1, .inr (0, [.ref h2, .int u]))] zsz) := by
  refine kMet (ws := [(h0, .inr (2, [.ref h1, .int a])), (h1, .inr (0, [.ref h2, .int u]))]) (Qc := qc_Seg_begin D k h0 h1 a h2 u) (by decide) (Nat.le_of_ble_eq_true rfl) (fun p e s m below meth c ls A H Cc hP hD hA hS hl => ?_)
  obtain ⟨hx, hb, hml, hr, hlk, hown, hts, hK, hE, hin⟩ := Cc
  have hl : lv_has ls 1 [(0, .ref h0)] := hl
  refine lv_aload_n hx hb d_Seg_begin_0 rfl (lv_at hl 0 rfl) ?_
  refine lv_aload_n hx hb d_Seg_begin_1 rfl (lv_at hl 0 rfl) ?_
  refine va_get (D := D) (ci := 2) (v := .ref h1) (C := R_Seg) (T := T_Seg) (N := 2) hx hb hts inw_Seg hown hK hP 0 rfl rfl 0 (by decide) (hts (.fieldLink R_Seg 9 "LikelyBits$Segment" "row" "LLikelyBits$Row;") mw_43) (fun _ h9 => h9) rfl d_Seg_begin_2 ?_
  refine kqi (va_runV (As := []) (rest := [.ref h0]) ⟨hx, hb, hml, hown, hts⟩ (c_Row_count l hl9 D k h1 h2 u ) (cwV 0 hts (gV mw_44 mw_45 mw_46 mw_47 mw_48) rfl rfl rfl (by decide +kernel) ⟨(Nat.le_of_ble_eq_true rfl), (Nat.le_of_ble_eq_true rfl)⟩) (kRecv (q := (R_Row, T_Row, 2)) (q0 := 1) (ci := 0) hK hP rfl rfl (kPreR (wc := [(h1, .inr (0, [.ref h2, .int u]))]) hE hK hP hS [1] rfl)) rfl rfl hl.1 rfl (lv_room (Nat.le_of_ble_eq_true rfl)) d_Seg_begin_5 ⟨(Nat.le_of_ble_eq_true rfl), (Nat.le_of_ble_eq_true rfl)⟩) hP hS (fun r1 H locs hw hP hS => ?_)
  replace hw := hw.symm
  subst hw
  refine va_put (D := D) (ci := 2) (v := .int u) (ty := .int) (C := R_Seg) (T := T_Seg) (N := 2) hx hb hts inw_Seg ty_Seg tyok_Seg nm_Seg hown hK hP hD hS 0 rfl rfl 1 (by decide) (hts (.fieldLink R_Seg 21 "LikelyBits$Segment" "start" "I") mw_49) (fun _ h9 => h9) rfl (by decide +kernel) rfl rfl (Nat.le_of_ble_eq_true rfl) d_Seg_begin_8 (fun H locs hP hD hS => ?_)
  have hP : va_P D vwCl [(h0, .inr (2, [.ref h1, .int u])), (h1, .inr (0, [.ref h2, .int u]))] H := hP
  have hD : va_D A [(h0, .inr (2, [.ref h1, .int u])), (h1, .inr (0, [.ref h2, .int u]))] := hD
  exact krv (wo := wo_Seg_begin k h0 h1 a h2 u) hx hb hr hlk hP hD hS () () trivial trivial [0, 1] rfl (by decide) (Nat.le_of_ble_eq_true rfl) (Nat.le_of_ble_eq_true rfl) d_Seg_begin_11

set_option maxHeartbeats 1000000 in
set_option maxRecDepth 100000 in
theorem c_Seg_length (l : Launch) (hl9 : l.stackTraces = false) (D : va_G) (k : gK) (h0 h1 : Nat) (a : Int32) (h2 : Nat) (u : Int32) : Met l y_Seg_length (.code y_Seg_length b_Seg_length 1 (some .int) :: AW) { frames := 1, cells := 0, slots := 0, locals := 20 } (va_Pc [.ref h0] (GR D k [(h0, .inr (2, [.ref h1, .int a])), (h1, .inr (0, [.ref h2, .int u]))])) (va_Qi (fun r (_ : Unit) => r = u - a) (fun _ _ => True) (fun _ => False)) 0 0 (fun _ => False) := by
  refine kMetR (ws := [(h0, .inr (2, [.ref h1, .int a])), (h1, .inr (0, [.ref h2, .int u]))]) (by decide) (Nat.le_of_ble_eq_true rfl) (fun p e s m below meth c ls H Cc hP hS hl => ?_)
  obtain ⟨hx, hb, hml, hr, hlk, hown, hts, hK, hE, hin⟩ := Cc
  have hl : lv_has ls 1 [(0, .ref h0)] := hl
  refine lv_aload_n hx hb d_Seg_length_0 rfl (lv_at hl 0 rfl) ?_
  refine va_get (D := D) (ci := 2) (v := .ref h1) (C := R_Seg) (T := T_Seg) (N := 2) hx hb hts inw_Seg hown hK hP 0 rfl rfl 0 (by decide) (hts (.fieldLink R_Seg 9 "LikelyBits$Segment" "row" "LLikelyBits$Row;") mw_43) (fun _ h9 => h9) rfl d_Seg_length_1 ?_
  refine kqi (va_runV (As := []) (rest := []) ⟨hx, hb, hml, hown, hts⟩ (c_Row_count l hl9 D k h1 h2 u ) (cwV 0 hts (gV mw_44 mw_45 mw_46 mw_47 mw_48) rfl rfl rfl (by decide +kernel) ⟨(Nat.le_of_ble_eq_true rfl), (Nat.le_of_ble_eq_true rfl)⟩) (kRecv (q := (R_Row, T_Row, 2)) (q0 := 1) (ci := 0) hK hP rfl rfl (kPreR (wc := [(h1, .inr (0, [.ref h2, .int u]))]) hE hK hP hS [1] rfl)) rfl rfl hl.1 rfl (lv_room (Nat.le_of_ble_eq_true rfl)) d_Seg_length_4 ⟨(Nat.le_of_ble_eq_true rfl), (Nat.le_of_ble_eq_true rfl)⟩) hP hS (fun r1 H locs hw hP hS => ?_)
  replace hw := hw.symm
  subst hw
  refine lv_aload_n hx hb d_Seg_length_7 rfl (lv_at hl 0 rfl) ?_
  refine va_get (D := D) (ci := 2) (v := .int a) (C := R_Seg) (T := T_Seg) (N := 2) hx hb hts inw_Seg hown hK hP 0 rfl rfl 1 (by decide) (hts (.fieldLink R_Seg 21 "LikelyBits$Segment" "start" "I") mw_49) (fun _ h9 => h9) rfl d_Seg_length_8 ?_
  refine lv_isub hx hb d_Seg_length_11 ?_
  exact koi hx hb hr hlk hS rfl (Nat.le_of_ble_eq_true rfl) (Nat.le_of_ble_eq_true rfl) d_Seg_length_12

set_option maxHeartbeats 1000000 in
set_option maxRecDepth 100000 in
theorem c_Seg_last (l : Launch) (hl9 : l.stackTraces = false) (D : va_G) (k : gK) (h0 h1 h2 : Nat) (a : Int32) (n : Nat) (f : Nat → Int32) (u : Int32) (L : List Int32) (hR : row_ok n f u L) : Met l y_Seg_last (.code y_Seg_last b_Seg_last 1 (some .int) :: AW) { frames := 2, cells := 0, slots := 0, locals := 40 } (va_Pc [.ref h0] (GR D k [(h0, .inr (2, [.ref h1, .int a])), (h1, .inr (0, [.ref h2, .int u])), (h2, .inl (k.1, n, .inl f))])) (va_Qi (fun r (_ : Unit) => r = sgl L a) (fun _ _ => True) (fun _ => False)) 0 0 (fun _ => False) := by
  refine kMetR (ws := [(h0, .inr (2, [.ref h1, .int a])), (h1, .inr (0, [.ref h2, .int u])), (h2, .inl (k.1, n, .inl f))]) (by decide) (Nat.le_of_ble_eq_true rfl) (fun p e s m below meth c ls H Cc hP hS hl => ?_)
  obtain ⟨hx, hb, hml, hr, hlk, hown, hts, hK, hE, hin⟩ := Cc
  have hl : lv_has ls 1 [(0, .ref h0)] := hl
  have hu := hR.1
  refine lv_aload_n hx hb d_Seg_last_0 rfl (lv_at hl 0 rfl) ?_
  refine kqi (va_runV (As := []) (rest := []) ⟨hx, hb, hml, hown, hts⟩ (c_Seg_length l hl9 D k h0 h1 a h2 u ) (cwV 0 hts (gV mw_50 mw_51 mw_52 mw_53 mw_54) rfl rfl rfl (by decide +kernel) ⟨(Nat.le_of_ble_eq_true rfl), (Nat.le_of_ble_eq_true rfl)⟩) (kRecv (q := (R_Seg, T_Seg, 2)) (q0 := 0) (ci := 2) hK hP rfl rfl (kPreR (wc := [(h0, .inr (2, [.ref h1, .int a])), (h1, .inr (0, [.ref h2, .int u]))]) hE hK hP hS [0, 1] rfl)) rfl rfl hl.1 rfl (lv_room (Nat.le_of_ble_eq_true rfl)) d_Seg_last_1 ⟨(Nat.le_of_ble_eq_true rfl), (Nat.le_of_ble_eq_true rfl)⟩) hP hS (fun r1 H locs hw hP hS => ?_)
  replace hw := hw.symm
  subst hw
  refine lv_if_le (tgt := 26) hx hb d_Seg_last_4 (by decide) (fun c2 => ?_) (fun c2 => ?_)
  · refine lv_iconst (v := -1) hx hb d_Seg_last_26 (by decide) ?_
    exact koi hx hb hr hlk hS (by simp [sgl, ← hu, c2]) (Nat.le_of_ble_eq_true rfl) (Nat.le_of_ble_eq_true rfl) d_Seg_last_27
  · refine lv_aload_n hx hb d_Seg_last_7 rfl (lv_at hl 0 rfl) ?_
    refine va_get (D := D) (ci := 2) (v := .ref h1) (C := R_Seg) (T := T_Seg) (N := 2) hx hb hts inw_Seg hown hK hP 0 rfl rfl 0 (by decide) (hts (.fieldLink R_Seg 9 "LikelyBits$Segment" "row" "LLikelyBits$Row;") mw_43) (fun _ h9 => h9) rfl d_Seg_last_8 ?_
    refine lv_aload_n hx hb d_Seg_last_11 rfl (lv_at hl 0 rfl) ?_
    refine va_get (D := D) (ci := 2) (v := .ref h1) (C := R_Seg) (T := T_Seg) (N := 2) hx hb hts inw_Seg hown hK hP 0 rfl rfl 0 (by decide) (hts (.fieldLink R_Seg 9 "LikelyBits$Segment" "row" "LLikelyBits$Row;") mw_43) (fun _ h9 => h9) rfl d_Seg_last_12 ?_
    refine kqi (va_runV (As := []) (rest := [.ref h1]) ⟨hx, hb, hml, hown, hts⟩ (c_Row_count l hl9 D k h1 h2 u ) (cwV 0 hts (gV mw_44 mw_45 mw_46 mw_47 mw_48) rfl rfl rfl (by decide +kernel) ⟨(Nat.le_of_ble_eq_true rfl), (Nat.le_of_ble_eq_true rfl)⟩) (kRecv (q := (R_Row, T_Row, 2)) (q0 := 1) (ci := 0) hK hP rfl rfl (kPreR (wc := [(h1, .inr (0, [.ref h2, .int u]))]) hE hK hP hS [1] rfl)) rfl rfl hl.1 rfl (lv_room (Nat.le_of_ble_eq_true rfl)) d_Seg_last_15 ⟨(Nat.le_of_ble_eq_true rfl), (Nat.le_of_ble_eq_true rfl)⟩) hP hS (fun r3 H locs hw hP hS => ?_)
    replace hw := hw.symm
    subst hw
    refine lv_iconst (v := 1) hx hb d_Seg_last_18 (by decide) ?_
    refine lv_isub hx hb d_Seg_last_19 ?_
    refine kqi (va_runV (As := [.int (u - 1)]) (rest := []) ⟨hx, hb, hml, hown, hts⟩ (c_Row_byteAt l hl9 D k h1 h2 n f u L (u - 1) (by assumption)) (cwV 1 hts (gV mw_55 mw_56 mw_57 mw_47 mw_58) rfl rfl rfl (by decide +kernel) ⟨(Nat.le_of_ble_eq_true rfl), (Nat.le_of_ble_eq_true rfl)⟩) (kRecv (q := (R_Row, T_Row, 2)) (q0 := 1) (ci := 0) hK hP rfl rfl (kPreR (wc := [(h1, .inr (0, [.ref h2, .int u])), (h2, .inl (k.1, n, .inl f))]) hE hK hP hS [1, 2] rfl)) rfl rfl hl.1 rfl (lv_room (Nat.le_of_ble_eq_true rfl)) d_Seg_last_20 ⟨(Nat.le_of_ble_eq_true rfl), (Nat.le_of_ble_eq_true rfl)⟩) hP hS (fun r4 H locs hw hP hS => ?_)
    replace hw := hw.symm
    subst hw
    refine lv_goto (tgt := 27) hx hb d_Seg_last_23 (by decide) ?_
    exact koi hx hb hr hlk hS (by simp [sgl, ← hu, c2]) (Nat.le_of_ble_eq_true rfl) (Nat.le_of_ble_eq_true rfl) d_Seg_last_27

def wo_Seg_changeLast (k : gK) (h0 h1 h2 : Nat) (a : Int32) (n : Nat) (f : Nat → Int32) (u : Int32) (L : List Int32) (b : Int32) (zz : Nat → Int32) (uu : List Int32) : va_W := match zz, uu with
  | f2, L2 => [(h0, .inr (2, [.ref h1, .int a])), (h1, .inr (0, [.ref h2, .int u])), (h2, .inl (k.1, n, .inl f2))]
def ex_Seg_changeLast (k : gK) (h0 h1 h2 : Nat) (a : Int32) (n : Nat) (f : Nat → Int32) (u : Int32) (L : List Int32) (b : Int32) (zz : Nat → Int32) (uu : List Int32) : Prop := match zz, uu with
  | f2, L2 => row_ok n f2 u L2
def po_Seg_changeLast (k : gK) (h0 h1 h2 : Nat) (a : Int32) (n : Nat) (f : Nat → Int32) (u : Int32) (L : List Int32) (b : Int32) (uu : List Int32) : Prop := match uu with
  | L2 => L2 = sgc L a b
def qc_Seg_changeLast (D : va_G) (k : gK) (h0 h1 h2 : Nat) (a : Int32) (n : Nat) (f : Nat → Int32) (u : Int32) (L : List Int32) (b : Int32) (A : Nat → Prop) : Array Value → State → Outcome → State → Prop := va_Qv (po_Seg_changeLast k h0 h1 h2 a n f u L b) (fun uu t => ∃ zz, ex_Seg_changeLast k h0 h1 h2 a n f u L b zz uu ∧ GP D A (wo_Seg_changeLast k h0 h1 h2 a n f u L b zz uu) t) A
set_option maxHeartbeats 1000000 in
set_option maxRecDepth 100000 in
theorem c_Seg_changeLast (l : Launch) (hl9 : l.stackTraces = false) (D : va_G) (k : gK) (h0 h1 h2 : Nat) (zsz : Nat) (a : Int32) (n : Nat) (f : Nat → Int32) (u : Int32) (L : List Int32) (b : Int32) (hR : row_ok n f u L) : Met l y_Seg_changeLast (.code y_Seg_changeLast b_Seg_changeLast 2 none :: AW) ({ frames := 2, cells := 0, slots := 0, locals := 40 }) (va_Pc [.ref h0, .int b] (GG D k [(h0, .inr (2, [.ref h1, .int a])), (h1, .inr (0, [.ref h2, .int u])), (h2, .inl (k.1, n, .inl f))] zsz)) (qc_Seg_changeLast D k h0 h1 h2 a n f u L b (va_A [(h0, .inr (2, [.ref h1, .int a])), (h1, .inr (0, [.ref h2, .int u])), (h2, .inl (k.1, n, .inl f))] zsz)) 0 0 (va_A [(h0, .inr (2, [.ref h1, .int a])), (h1, .inr (0, [.ref h2, .int u])), (h2, .inl (k.1, n, .inl f))] zsz) := by
  refine kMet (ws := [(h0, .inr (2, [.ref h1, .int a])), (h1, .inr (0, [.ref h2, .int u])), (h2, .inl (k.1, n, .inl f))]) (Qc := qc_Seg_changeLast D k h0 h1 h2 a n f u L b) (by decide) (Nat.le_of_ble_eq_true rfl) (fun p e s m below meth c ls A H Cc hP hD hA hS hl => ?_)
  obtain ⟨hx, hb, hml, hr, hlk, hown, hts, hK, hE, hin⟩ := Cc
  have hl : lv_has ls 2 [(0, .ref h0), (1, .int b)] := hl
  have hu := hR.1
  refine lv_aload_n hx hb d_Seg_changeLast_0 rfl (lv_at hl 0 rfl) ?_
  refine kqi (va_runV (As := []) (rest := []) ⟨hx, hb, hml, hown, hts⟩ (c_Seg_length l hl9 D k h0 h1 a h2 u ) (cwV 0 hts (gV mw_50 mw_51 mw_52 mw_53 mw_54) rfl rfl rfl (by decide +kernel) ⟨(Nat.le_of_ble_eq_true rfl), (Nat.le_of_ble_eq_true rfl)⟩) (kRecv (q := (R_Seg, T_Seg, 2)) (q0 := 0) (ci := 2) hK hP rfl rfl (kPreR (wc := [(h0, .inr (2, [.ref h1, .int a])), (h1, .inr (0, [.ref h2, .int u]))]) hE hK hP hS [0, 1] rfl)) rfl rfl hl.1 rfl (lv_room (Nat.le_of_ble_eq_true rfl)) d_Seg_changeLast_1 ⟨(Nat.le_of_ble_eq_true rfl), (Nat.le_of_ble_eq_true rfl)⟩) hP hS (fun r1 H locs hw hP hS => ?_)
  replace hw := hw.symm
  subst hw
  refine lv_if_le (tgt := 24) hx hb d_Seg_changeLast_4 (by decide) (fun c2 => ?_) (fun c2 => ?_)
  · exact krv (wo := wo_Seg_changeLast k h0 h1 h2 a n f u L b) hx hb hr hlk hP hD hS L f (by simp [po_Seg_changeLast, sgc, ← hu, c2]) (by assumption) [0, 1, 2] rfl (by decide) (Nat.le_of_ble_eq_true rfl) (Nat.le_of_ble_eq_true rfl) d_Seg_changeLast_24
  · refine lv_aload_n hx hb d_Seg_changeLast_7 rfl (lv_at hl 0 rfl) ?_
    refine va_get (D := D) (ci := 2) (v := .ref h1) (C := R_Seg) (T := T_Seg) (N := 2) hx hb hts inw_Seg hown hK hP 0 rfl rfl 0 (by decide) (hts (.fieldLink R_Seg 9 "LikelyBits$Segment" "row" "LLikelyBits$Row;") mw_43) (fun _ h9 => h9) rfl d_Seg_changeLast_8 ?_
    refine lv_aload_n hx hb d_Seg_changeLast_11 rfl (lv_at hl 0 rfl) ?_
    refine va_get (D := D) (ci := 2) (v := .ref h1) (C := R_Seg) (T := T_Seg) (N := 2) hx hb hts inw_Seg hown hK hP 0 rfl rfl 0 (by decide) (hts (.fieldLink R_Seg 9 "LikelyBits$Segment" "row" "LLikelyBits$Row;") mw_43) (fun _ h9 => h9) rfl d_Seg_changeLast_12 ?_
    refine kqi (va_runV (As := []) (rest := [.ref h1]) ⟨hx, hb, hml, hown, hts⟩ (c_Row_count l hl9 D k h1 h2 u ) (cwV 0 hts (gV mw_44 mw_45 mw_46 mw_47 mw_48) rfl rfl rfl (by decide +kernel) ⟨(Nat.le_of_ble_eq_true rfl), (Nat.le_of_ble_eq_true rfl)⟩) (kRecv (q := (R_Row, T_Row, 2)) (q0 := 1) (ci := 0) hK hP rfl rfl (kPreR (wc := [(h1, .inr (0, [.ref h2, .int u]))]) hE hK hP hS [1] rfl)) rfl rfl hl.1 rfl (lv_room (Nat.le_of_ble_eq_true rfl)) d_Seg_changeLast_15 ⟨(Nat.le_of_ble_eq_true rfl), (Nat.le_of_ble_eq_true rfl)⟩) hP hS (fun r3 H locs hw hP hS => ?_)
    replace hw := hw.symm
    subst hw
    refine lv_iconst (v := 1) hx hb d_Seg_changeLast_18 (by decide) ?_
    refine lv_isub hx hb d_Seg_changeLast_19 ?_
    refine lv_iload_n hx hb d_Seg_changeLast_20 rfl (lv_at hl 1 rfl) ?_
    refine kcv (wc := [(h1, .inr (0, [.ref h2, .int u])), (h2, .inl (k.1, n, .inl f))]) (wr := [(h0, .inr (2, [.ref h1, .int a]))]) (va_runV (As := [.int (u - 1), .int b]) (rest := []) ⟨hx, hb, hml, hown, hts⟩ (c_Row_change l hl9 D k h1 h2 H.size n f u L (u - 1) b (by assumption)) (cwV 2 hts (gV mw_59 mw_60 mw_61 mw_47 mw_62) rfl rfl rfl (by decide +kernel) ⟨(Nat.le_of_ble_eq_true rfl), (Nat.le_of_ble_eq_true rfl)⟩) (kRecv (q := (R_Row, T_Row, 2)) (q0 := 1) (ci := 0) hK hP rfl rfl (kPre (wc := [(h1, .inr (0, [.ref h2, .int u])), (h2, .inl (k.1, n, .inl f))]) hE hK hP hD hS hA [1, 2] rfl (by decide))) rfl rfl hl.1 rfl (lv_room (Nat.le_of_ble_eq_true rfl)) d_Seg_changeLast_21 ⟨(Nat.le_of_ble_eq_true rfl), (Nat.le_of_ble_eq_true rfl)⟩) hP hD hS hA [1, 2] [0] rfl rfl (by decide) (by decide) (fun zz uu H locs hw7 hz8 hP hD hS => ?_)
    obtain ⟨f_5, rfl⟩ : ∃ y, y = zz := ⟨_, rfl⟩
    obtain ⟨L_4, rfl⟩ : ∃ y, y = uu := ⟨_, rfl⟩
    have hw7 : L_4 = rs L (u - 1) b := hw7
    have hz8 : row_ok n f_5 u L_4 := hz8
    have hP : va_P D vwCl [(h0, .inr (2, [.ref h1, .int a])), (h1, .inr (0, [.ref h2, .int u])), (h2, .inl (k.1, n, .inl f_5))] H := hP
    have hD : va_D A [(h0, .inr (2, [.ref h1, .int a])), (h1, .inr (0, [.ref h2, .int u])), (h2, .inl (k.1, n, .inl f_5))] := hD
    exact krv (wo := wo_Seg_changeLast k h0 h1 h2 a n f u L b) hx hb hr hlk hP hD hS L_4 f_5 (by obtain rfl := hw7; simp [po_Seg_changeLast, sgc, ← hu, c2]) (by assumption) [0, 1, 2] rfl (by decide) (Nat.le_of_ble_eq_true rfl) (Nat.le_of_ble_eq_true rfl) d_Seg_changeLast_24

def wo_Seg_append (k : gK) (h0 h1 h2 : Nat) (a : Int32) (n : Nat) (f : Nat → Int32) (u : Int32) (L : List Int32) (b : Int32) (zz : Nat × (Nat → Int32) × Int32) (uu : Nat × List Int32) : va_W := match zz, uu with
  | (q2, f2, u2), (n2, L2) => [(h0, .inr (2, [.ref h1, .int a])), (h1, .inr (0, [.ref q2, .int u2])), (q2, .inl (k.1, n2, .inl f2))]
def ex_Seg_append (k : gK) (h0 h1 h2 : Nat) (a : Int32) (n : Nat) (f : Nat → Int32) (u : Int32) (L : List Int32) (b : Int32) (zz : Nat × (Nat → Int32) × Int32) (uu : Nat × List Int32) : Prop := match zz, uu with
  | (q2, f2, u2), (n2, L2) => row_ok n2 f2 u2 L2
def po_Seg_append (k : gK) (h0 h1 h2 : Nat) (a : Int32) (n : Nat) (f : Nat → Int32) (u : Int32) (L : List Int32) (b : Int32) (uu : Nat × List Int32) : Prop := match uu with
  | (n2, L2) => n2 = apn n L ∧ L2 = app L b
def qc_Seg_append (D : va_G) (k : gK) (h0 h1 h2 : Nat) (a : Int32) (n : Nat) (f : Nat → Int32) (u : Int32) (L : List Int32) (b : Int32) (A : Nat → Prop) : Array Value → State → Outcome → State → Prop := va_Qv (po_Seg_append k h0 h1 h2 a n f u L b) (fun uu t => ∃ zz, ex_Seg_append k h0 h1 h2 a n f u L b zz uu ∧ GP D A (wo_Seg_append k h0 h1 h2 a n f u L b zz uu) t) A
set_option maxHeartbeats 1000000 in
set_option maxRecDepth 100000 in
theorem c_Seg_append (l : Launch) (hl9 : l.stackTraces = false) (D : va_G) (k : gK) (h0 h1 h2 : Nat) (zsz : Nat) (a : Int32) (n : Nat) (f : Nat → Int32) (u : Int32) (L : List Int32) (b : Int32) (hR : row_ok n f u L) : Met l y_Seg_append (.code y_Seg_append b_Seg_append 2 none :: AW) ({ frames := 3, cells := apn n L - n, slots := 2 * (apn n L - n), locals := 103 }) (va_Pc [.ref h0, .int b] (GG D k [(h0, .inr (2, [.ref h1, .int a])), (h1, .inr (0, [.ref h2, .int u])), (h2, .inl (k.1, n, .inl f))] zsz)) (qc_Seg_append D k h0 h1 h2 a n f u L b (va_A [(h0, .inr (2, [.ref h1, .int a])), (h1, .inr (0, [.ref h2, .int u])), (h2, .inl (k.1, n, .inl f))] zsz)) (apn n L - n) (2 * (apn n L - n)) (va_A [(h0, .inr (2, [.ref h1, .int a])), (h1, .inr (0, [.ref h2, .int u])), (h2, .inl (k.1, n, .inl f))] zsz) := by
  refine kMet (ws := [(h0, .inr (2, [.ref h1, .int a])), (h1, .inr (0, [.ref h2, .int u])), (h2, .inl (k.1, n, .inl f))]) (Qc := qc_Seg_append D k h0 h1 h2 a n f u L b) (by decide) (Nat.le_of_ble_eq_true rfl) (fun p e s m below meth c ls A H Cc hP hD hA hS hl => ?_)
  obtain ⟨hx, hb, hml, hr, hlk, hown, hts, hK, hE, hin⟩ := Cc
  have hl : lv_has ls 2 [(0, .ref h0), (1, .int b)] := hl
  refine lv_aload_n hx hb d_Seg_append_0 rfl (lv_at hl 0 rfl) ?_
  refine va_get (D := D) (ci := 2) (v := .ref h1) (C := R_Seg) (T := T_Seg) (N := 2) hx hb hts inw_Seg hown hK hP 0 rfl rfl 0 (by decide) (hts (.fieldLink R_Seg 9 "LikelyBits$Segment" "row" "LLikelyBits$Row;") mw_43) (fun _ h9 => h9) rfl d_Seg_append_1 ?_
  refine lv_iload_n hx hb d_Seg_append_4 rfl (lv_at hl 1 rfl) ?_
  refine kcv (wc := [(h1, .inr (0, [.ref h2, .int u])), (h2, .inl (k.1, n, .inl f))]) (wr := [(h0, .inr (2, [.ref h1, .int a]))]) (va_runV (As := [.int b]) (rest := []) ⟨hx, hb, hml, hown, hts⟩ (c_Row_append l hl9 D k h1 h2 H.size n f u L b (by assumption)) (cwV 1 hts (gV mw_63 mw_64 mw_65 mw_47 mw_66) rfl rfl rfl (by decide +kernel) ⟨(Nat.le_of_ble_eq_true rfl), (Nat.le_of_ble_eq_true rfl)⟩) (kRecv (q := (R_Row, T_Row, 2)) (q0 := 1) (ci := 0) hK hP rfl rfl (kPre (wc := [(h1, .inr (0, [.ref h2, .int u])), (h2, .inl (k.1, n, .inl f))]) hE hK hP hD hS hA [1, 2] rfl (by decide))) rfl rfl hl.1 rfl (lv_room (Nat.le_of_ble_eq_true rfl)) d_Seg_append_5 ⟨(by first | omega | (dsimp only; omega)), (by first | omega | (dsimp only; omega))⟩) hP hD hS hA [1, 2] [0] rfl rfl (by decide) (by decide) (fun zz uu H locs hw7 hz8 hP hD hS => ?_)
  obtain ⟨q_3, f_4, u_5⟩ := zz
  obtain ⟨n_1, L_2⟩ := uu
  have hw7 : n_1 = apn n L ∧ L_2 = app L b := hw7
  have hz8 : row_ok n_1 f_4 u_5 L_2 := hz8
  have hP : va_P D vwCl [(h0, .inr (2, [.ref h1, .int a])), (h1, .inr (0, [.ref q_3, .int u_5])), (q_3, .inl (k.1, n_1, .inl f_4))] H := hP
  have hD : va_D A [(h0, .inr (2, [.ref h1, .int a])), (h1, .inr (0, [.ref q_3, .int u_5])), (q_3, .inl (k.1, n_1, .inl f_4))] := hD
  exact krv (wo := wo_Seg_append k h0 h1 h2 a n f u L b) hx hb hr hlk hP hD hS (n_1, L_2) (q_3, f_4, u_5) hw7 (by assumption) [0, 1, 2] rfl (by decide) (by first | omega | (dsimp only; omega)) (by first | omega | (dsimp only; omega)) d_Seg_append_8

def wo_Seg_drop (k : gK) (h0 h1 h2 : Nat) (a : Int32) (n : Nat) (f : Nat → Int32) (u : Int32) (L : List Int32) (zz : Int32) (uu : List Int32) : va_W := match zz, uu with
  | u2, L2 => [(h0, .inr (2, [.ref h1, .int a])), (h1, .inr (0, [.ref h2, .int u2])), (h2, .inl (k.1, n, .inl f))]
def ex_Seg_drop (k : gK) (h0 h1 h2 : Nat) (a : Int32) (n : Nat) (f : Nat → Int32) (u : Int32) (L : List Int32) (zz : Int32) (uu : List Int32) : Prop := match zz, uu with
  | u2, L2 => row_ok n f u2 L2
def po_Seg_drop (k : gK) (h0 h1 h2 : Nat) (a : Int32) (n : Nat) (f : Nat → Int32) (u : Int32) (L : List Int32) (uu : List Int32) : Prop := match uu with
  | L2 => L2 = sgd L a
def qc_Seg_drop (D : va_G) (k : gK) (h0 h1 h2 : Nat) (a : Int32) (n : Nat) (f : Nat → Int32) (u : Int32) (L : List Int32) (A : Nat → Prop) : Array Value → State → Outcome → State → Prop := va_Qv (po_Seg_drop k h0 h1 h2 a n f u L) (fun uu t => ∃ zz, ex_Seg_drop k h0 h1 h2 a n f u L zz uu ∧ GP D A (wo_Seg_drop k h0 h1 h2 a n f u L zz uu) t) A
set_option maxHeartbeats 1000000 in
set_option maxRecDepth 100000 in
theorem c_Seg_drop (l : Launch) (hl9 : l.stackTraces = false) (D : va_G) (k : gK) (h0 h1 h2 : Nat) (zsz : Nat) (a : Int32) (n : Nat) (f : Nat → Int32) (u : Int32) (L : List Int32) (hR : row_ok n f u L) : Met l y_Seg_dropLastIfAllOnes (.code y_Seg_dropLastIfAllOnes b_Seg_dropLastIfAllOnes 1 none :: AW) ({ frames := 3, cells := 0, slots := 0, locals := 60 }) (va_Pc [.ref h0] (GG D k [(h0, .inr (2, [.ref h1, .int a])), (h1, .inr (0, [.ref h2, .int u])), (h2, .inl (k.1, n, .inl f))] zsz)) (qc_Seg_drop D k h0 h1 h2 a n f u L (va_A [(h0, .inr (2, [.ref h1, .int a])), (h1, .inr (0, [.ref h2, .int u])), (h2, .inl (k.1, n, .inl f))] zsz)) 0 0 (va_A [(h0, .inr (2, [.ref h1, .int a])), (h1, .inr (0, [.ref h2, .int u])), (h2, .inl (k.1, n, .inl f))] zsz) := by
  refine kMet (ws := [(h0, .inr (2, [.ref h1, .int a])), (h1, .inr (0, [.ref h2, .int u])), (h2, .inl (k.1, n, .inl f))]) (Qc := qc_Seg_drop D k h0 h1 h2 a n f u L) (by decide) (Nat.le_of_ble_eq_true rfl) (fun p e s m below meth c ls A H Cc hP hD hA hS hl => ?_)
  obtain ⟨hx, hb, hml, hr, hlk, hown, hts, hK, hE, hin⟩ := Cc
  have hl : lv_has ls 1 [(0, .ref h0)] := hl
  refine lv_aload_n hx hb d_Seg_dropLastIfAllOnes_0 rfl (lv_at hl 0 rfl) ?_
  refine kqi (va_runV (As := []) (rest := []) ⟨hx, hb, hml, hown, hts⟩ (c_Seg_last l hl9 D k h0 h1 h2 a n f u L (by assumption)) (cwV 0 hts (gV mw_67 mw_68 mw_69 mw_53 mw_70) rfl rfl rfl (by decide +kernel) ⟨(Nat.le_of_ble_eq_true rfl), (Nat.le_of_ble_eq_true rfl)⟩) (kRecv (q := (R_Seg, T_Seg, 2)) (q0 := 0) (ci := 2) hK hP rfl rfl (kPreR (wc := [(h0, .inr (2, [.ref h1, .int a])), (h1, .inr (0, [.ref h2, .int u])), (h2, .inl (k.1, n, .inl f))]) hE hK hP hS [0, 1, 2] rfl)) rfl rfl hl.1 rfl (lv_room (Nat.le_of_ble_eq_true rfl)) d_Seg_dropLastIfAllOnes_1 ⟨(Nat.le_of_ble_eq_true rfl), (Nat.le_of_ble_eq_true rfl)⟩) hP hS (fun r1 H locs hw hP hS => ?_)
  replace hw := hw.symm
  subst hw
  refine lv_sipush (v := 255) hx hb d_Seg_dropLastIfAllOnes_4 (by decide) ?_
  refine lv_icmp_ne (tgt := 17) hx hb d_Seg_dropLastIfAllOnes_7 (by decide) (fun c2 => ?_) (fun c2 => ?_)
  · exact krv (wo := wo_Seg_drop k h0 h1 h2 a n f u L) hx hb hr hlk hP hD hS L u (by simp [po_Seg_drop, sgd, c2]) (by assumption) [0, 1, 2] rfl (by decide) (Nat.le_of_ble_eq_true rfl) (Nat.le_of_ble_eq_true rfl) d_Seg_dropLastIfAllOnes_17
  · refine lv_aload_n hx hb d_Seg_dropLastIfAllOnes_10 rfl (lv_at hl 0 rfl) ?_
    refine va_get (D := D) (ci := 2) (v := .ref h1) (C := R_Seg) (T := T_Seg) (N := 2) hx hb hts inw_Seg hown hK hP 0 rfl rfl 0 (by decide) (hts (.fieldLink R_Seg 9 "LikelyBits$Segment" "row" "LLikelyBits$Row;") mw_43) (fun _ h9 => h9) rfl d_Seg_dropLastIfAllOnes_11 ?_
    refine kcv (wc := [(h1, .inr (0, [.ref h2, .int u])), (h2, .inl (k.1, n, .inl f))]) (wr := [(h0, .inr (2, [.ref h1, .int a]))]) (va_runV (As := []) (rest := []) ⟨hx, hb, hml, hown, hts⟩ (c_Row_dropLast l hl9 D k h1 h2 H.size n f u L (by assumption)) (cwV 0 hts (gV mw_71 mw_72 mw_73 mw_47 mw_74) rfl rfl rfl (by decide +kernel) ⟨(Nat.le_of_ble_eq_true rfl), (Nat.le_of_ble_eq_true rfl)⟩) (kRecv (q := (R_Row, T_Row, 2)) (q0 := 1) (ci := 0) hK hP rfl rfl (kPre (wc := [(h1, .inr (0, [.ref h2, .int u])), (h2, .inl (k.1, n, .inl f))]) hE hK hP hD hS hA [1, 2] rfl (by decide))) rfl rfl hl.1 rfl (lv_room (Nat.le_of_ble_eq_true rfl)) d_Seg_dropLastIfAllOnes_14 ⟨(Nat.le_of_ble_eq_true rfl), (Nat.le_of_ble_eq_true rfl)⟩) hP hD hS hA [1, 2] [0] rfl rfl (by decide) (by decide) (fun zz uu H locs hw6 hz7 hP hD hS => ?_)
    obtain ⟨u_4, rfl⟩ : ∃ y, y = zz := ⟨_, rfl⟩
    obtain ⟨L_3, rfl⟩ : ∃ y, y = uu := ⟨_, rfl⟩
    have hw6 : L_3 = L.dropLast := hw6
    have hz7 : row_ok n f u_4 L_3 := hz7
    have hP : va_P D vwCl [(h0, .inr (2, [.ref h1, .int a])), (h1, .inr (0, [.ref h2, .int u_4])), (h2, .inl (k.1, n, .inl f))] H := hP
    have hD : va_D A [(h0, .inr (2, [.ref h1, .int a])), (h1, .inr (0, [.ref h2, .int u_4])), (h2, .inl (k.1, n, .inl f))] := hD
    exact krv (wo := wo_Seg_drop k h0 h1 h2 a n f u L) hx hb hr hlk hP hD hS L_3 u_4 (by obtain rfl := hw6; simp [po_Seg_drop, sgd, c2]) (by assumption) [0, 1, 2] rfl (by decide) (Nat.le_of_ble_eq_true rfl) (Nat.le_of_ble_eq_true rfl) d_Seg_dropLastIfAllOnes_17

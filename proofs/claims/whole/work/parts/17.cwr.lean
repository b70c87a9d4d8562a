set_option maxRecDepth 20000 in
theorem mw_75 : (Cond.methodLink R_CWr 3 objectInit) ∈ AW := inAW (List.mem_append_right _ (show _ ∈ tables_1_1 ++ (tables_1_2 ++ (tables_1_3 ++ tables_1_4)) from (List.mem_append_left _ (List.mem_of_getElem? (i := 74) rfl)))) rfl
set_option maxRecDepth 20000 in
theorem mw_76 : (Cond.fieldLink R_CWr 9 "LikelyBits$CodedWriter" "segment" "LLikelyBits$Segment;") ∈ AW := inAW (List.mem_append_right _ (show _ ∈ tables_1_1 ++ (tables_1_2 ++ (tables_1_3 ++ tables_1_4)) from (List.mem_append_left _ (List.mem_of_getElem? (i := 75) rfl)))) rfl
set_option maxRecDepth 20000 in
theorem mw_77 : (Cond.fieldLink R_CWr 15 "LikelyBits$CodedWriter" "contexts" "LLikelyBits$Contexts;") ∈ AW := inAW (List.mem_append_right _ (show _ ∈ tables_1_1 ++ (tables_1_2 ++ (tables_1_3 ++ tables_1_4)) from (List.mem_append_left _ (List.mem_of_getElem? (i := 76) rfl)))) rfl
set_option maxRecDepth 20000 in
theorem mw_78 : (Cond.fieldLink R_CWr 19 "LikelyBits$CodedWriter" "low" "I") ∈ AW := inAW (List.mem_append_right _ (show _ ∈ tables_1_1 ++ (tables_1_2 ++ (tables_1_3 ++ tables_1_4)) from (List.mem_append_left _ (List.mem_of_getElem? (i := 77) rfl)))) rfl
set_option maxRecDepth 20000 in
theorem mw_79 : (Cond.constant R_CWr 23 32768) ∈ AW := inAW (List.mem_append_right _ (show _ ∈ tables_1_1 ++ (tables_1_2 ++ (tables_1_3 ++ tables_1_4)) from (List.mem_append_right _ (List.mem_append_left _ (List.mem_of_getElem? (i := 211) rfl))))) rfl
set_option maxRecDepth 20000 in
theorem mw_80 : (Cond.fieldLink R_CWr 24 "LikelyBits$CodedWriter" "size" "I") ∈ AW := inAW (List.mem_append_right _ (show _ ∈ tables_1_1 ++ (tables_1_2 ++ (tables_1_3 ++ tables_1_4)) from (List.mem_append_left _ (List.mem_of_getElem? (i := 79) rfl)))) rfl
set_option maxRecDepth 20000 in
theorem mw_81 : (Cond.fieldLink R_CWr 27 "LikelyBits$CodedWriter" "room" "I") ∈ AW := inAW (List.mem_append_right _ (show _ ∈ tables_1_1 ++ (tables_1_2 ++ (tables_1_3 ++ tables_1_4)) from (List.mem_append_left _ (List.mem_of_getElem? (i := 81) rfl)))) rfl
set_option maxRecDepth 20000 in
theorem mw_82 : (Cond.methodLink R_CWr 59 y_Seg_last) ∈ AW := inAW (List.mem_append_right _ (show _ ∈ tables_1_1 ++ (tables_1_2 ++ (tables_1_3 ++ tables_1_4)) from (List.mem_append_right _ (List.mem_append_right _ (List.mem_append_left _ (List.mem_of_getElem? (i := 58) rfl)))))) rfl
set_option maxRecDepth 20000 in
theorem mw_83 : (Cond.methodLink R_CWr 69 y_Seg_append) ∈ AW := inAW (List.mem_append_right _ (show _ ∈ tables_1_1 ++ (tables_1_2 ++ (tables_1_3 ++ tables_1_4)) from (List.mem_append_right _ (List.mem_append_right _ (List.mem_append_left _ (List.mem_of_getElem? (i := 61) rfl)))))) rfl
set_option maxRecDepth 20000 in
theorem mw_84 : (Cond.instanceMethod y_Seg_append) ∈ AW := inAW (List.mem_append_right _ (show _ ∈ tables_1_1 ++ (tables_1_2 ++ (tables_1_3 ++ tables_1_4)) from (List.mem_append_right _ (List.mem_append_right _ (List.mem_append_left _ (List.mem_of_getElem? (i := 1) rfl)))))) rfl
set_option maxRecDepth 20000 in
theorem mw_85 : (Cond.selects R_Seg y_Seg_append y_Seg_append) ∈ AW := inAW (List.mem_append_right _ (show _ ∈ tables_1_1 ++ (tables_1_2 ++ (tables_1_3 ++ tables_1_4)) from (List.mem_append_right _ (List.mem_append_right _ (List.mem_append_left _ (List.mem_of_getElem? (i := 2) rfl)))))) rfl
set_option maxRecDepth 20000 in
theorem mw_86 : (Cond.code y_Seg_append b_Seg_append 2 none) ∈ AW := inAW (List.mem_append_right _ (show _ ∈ tables_1_1 ++ (tables_1_2 ++ (tables_1_3 ++ tables_1_4)) from (List.mem_append_right _ (List.mem_append_right _ (List.mem_append_left _ (List.mem_of_getElem? (i := 3) rfl)))))) rfl
set_option maxRecDepth 20000 in
theorem mw_87 : (Cond.constant R_CWr 65 134217728) ∈ AW := inAW (List.mem_append_right _ (show _ ∈ tables_1_1 ++ (tables_1_2 ++ (tables_1_3 ++ tables_1_4)) from (List.mem_append_right _ (List.mem_append_right _ (List.mem_append_left _ (List.mem_of_getElem? (i := 59) rfl)))))) rfl
set_option maxRecDepth 20000 in
theorem mw_88 : (Cond.methodLink R_CWr 66 y_Seg_changeLast) ∈ AW := inAW (List.mem_append_right _ (show _ ∈ tables_1_1 ++ (tables_1_2 ++ (tables_1_3 ++ tables_1_4)) from (List.mem_append_right _ (List.mem_append_right _ (List.mem_append_left _ (List.mem_of_getElem? (i := 60) rfl)))))) rfl
set_option maxRecDepth 20000 in
theorem mw_89 : (Cond.instanceMethod y_Seg_changeLast) ∈ AW := inAW (List.mem_append_right _ (show _ ∈ tables_1_1 ++ (tables_1_2 ++ (tables_1_3 ++ tables_1_4)) from (List.mem_append_right _ (List.mem_append_right _ (List.mem_append_left _ (List.mem_of_getElem? (i := 6) rfl)))))) rfl
set_option maxRecDepth 20000 in
theorem mw_90 : (Cond.selects R_Seg y_Seg_changeLast y_Seg_changeLast) ∈ AW := inAW (List.mem_append_right _ (show _ ∈ tables_1_1 ++ (tables_1_2 ++ (tables_1_3 ++ tables_1_4)) from (List.mem_append_right _ (List.mem_append_right _ (List.mem_append_left _ (List.mem_of_getElem? (i := 7) rfl)))))) rfl
set_option maxRecDepth 20000 in
theorem mw_91 : (Cond.code y_Seg_changeLast b_Seg_changeLast 2 none) ∈ AW := inAW (List.mem_append_right _ (show _ ∈ tables_1_1 ++ (tables_1_2 ++ (tables_1_3 ++ tables_1_4)) from (List.mem_append_right _ (List.mem_append_right _ (List.mem_append_left _ (List.mem_of_getElem? (i := 8) rfl)))))) rfl
set_option maxRecDepth 20000 in
theorem mw_92 : (Cond.methodLink R_CWr 56 y_CWr_byteOut) ∈ AW := inAW (List.mem_append_right _ (show _ ∈ tables_1_1 ++ (tables_1_2 ++ (tables_1_3 ++ tables_1_4)) from (List.mem_append_right _ (List.mem_append_right _ (List.mem_append_left _ (List.mem_of_getElem? (i := 54) rfl)))))) rfl
set_option maxRecDepth 20000 in
theorem mw_93 : (Cond.instanceMethod y_CWr_byteOut) ∈ AW := inAW (List.mem_append_right _ (show _ ∈ tables_1_1 ++ (tables_1_2 ++ (tables_1_3 ++ tables_1_4)) from (List.mem_append_right _ (List.mem_append_right _ (List.mem_append_left _ (List.mem_of_getElem? (i := 56) rfl)))))) rfl
set_option maxRecDepth 20000 in
theorem mw_94 : (Cond.selects R_CWr y_CWr_byteOut y_CWr_byteOut) ∈ AW := inAW (List.mem_append_left _ (List.mem_of_getElem? (i := 6) rfl)) rfl
set_option maxRecDepth 20000 in
theorem mw_95 : (Cond.initialized R_CWr) ∈ AW := inAW (List.mem_append_right _ (show _ ∈ tables_1_1 ++ (tables_1_2 ++ (tables_1_3 ++ tables_1_4)) from (List.mem_append_left _ (List.mem_of_getElem? (i := 5) rfl)))) rfl
set_option maxRecDepth 20000 in
theorem mw_96 : (Cond.code y_CWr_byteOut b_CWr_byteOut 3 none) ∈ AW := inAW (List.mem_append_right _ (show _ ∈ tables_1_1 ++ (tables_1_2 ++ (tables_1_3 ++ tables_1_4)) from (List.mem_append_right _ (List.mem_append_right _ (List.mem_append_left _ (List.mem_of_getElem? (i := 57) rfl)))))) rfl
set_option maxRecDepth 20000 in
theorem mw_97 : (Cond.methodLink R_CWr 49 y_Cxt_afterLikely) ∈ AW := inAW (List.mem_append_right _ (show _ ∈ tables_1_1 ++ (tables_1_2 ++ (tables_1_3 ++ tables_1_4)) from (List.mem_append_right _ (List.mem_append_right _ (List.mem_append_left _ (List.mem_of_getElem? (i := 29) rfl)))))) rfl
set_option maxRecDepth 20000 in
theorem mw_98 : (Cond.instanceMethod y_Cxt_afterLikely) ∈ AW := inAW (List.mem_append_right _ (show _ ∈ tables_1_1 ++ (tables_1_2 ++ (tables_1_3 ++ tables_1_4)) from (List.mem_append_right _ (List.mem_append_right _ (List.mem_append_left _ (List.mem_of_getElem? (i := 30) rfl)))))) rfl
set_option maxRecDepth 20000 in
theorem mw_99 : (Cond.selects R_Cxt y_Cxt_afterLikely y_Cxt_afterLikely) ∈ AW := inAW (List.mem_append_right _ (show _ ∈ tables_1_1 ++ (tables_1_2 ++ (tables_1_3 ++ tables_1_4)) from (List.mem_append_right _ (List.mem_append_right _ (List.mem_append_left _ (List.mem_of_getElem? (i := 31) rfl)))))) rfl
set_option maxRecDepth 20000 in
theorem mw_100 : (Cond.code y_Cxt_afterLikely b_Cxt_afterLikely 2 none) ∈ AW := inAW (List.mem_append_right _ (show _ ∈ tables_1_1 ++ (tables_1_2 ++ (tables_1_3 ++ tables_1_4)) from (List.mem_append_right _ (List.mem_append_right _ (List.mem_append_left _ (List.mem_of_getElem? (i := 32) rfl)))))) rfl
set_option maxRecDepth 20000 in
theorem mw_101 : (Cond.methodLink R_CWr 53 y_Cxt_afterOther) ∈ AW := inAW (List.mem_append_right _ (show _ ∈ tables_1_1 ++ (tables_1_2 ++ (tables_1_3 ++ tables_1_4)) from (List.mem_append_right _ (List.mem_append_right _ (List.mem_append_left _ (List.mem_of_getElem? (i := 41) rfl)))))) rfl
set_option maxRecDepth 20000 in
theorem mw_102 : (Cond.instanceMethod y_Cxt_afterOther) ∈ AW := inAW (List.mem_append_right _ (show _ ∈ tables_1_1 ++ (tables_1_2 ++ (tables_1_3 ++ tables_1_4)) from (List.mem_append_right _ (List.mem_append_right _ (List.mem_append_left _ (List.mem_of_getElem? (i := 42) rfl)))))) rfl
set_option maxRecDepth 20000 in
theorem mw_103 : (Cond.selects R_Cxt y_Cxt_afterOther y_Cxt_afterOther) ∈ AW := inAW (List.mem_append_right _ (show _ ∈ tables_1_1 ++ (tables_1_2 ++ (tables_1_3 ++ tables_1_4)) from (List.mem_append_right _ (List.mem_append_right _ (List.mem_append_left _ (List.mem_of_getElem? (i := 43) rfl)))))) rfl
set_option maxRecDepth 20000 in
theorem mw_104 : (Cond.code y_Cxt_afterOther b_Cxt_afterOther 4 none) ∈ AW := inAW (List.mem_append_right _ (show _ ∈ tables_1_1 ++ (tables_1_2 ++ (tables_1_3 ++ tables_1_4)) from (List.mem_append_right _ (List.mem_append_right _ (List.mem_append_left _ (List.mem_of_getElem? (i := 44) rfl)))))) rfl
def wo_CWr_init (k : gK) (h0 : Nat) (qs : Nat) (qc : Nat) (zz : Unit) (uu : Unit) : va_W := match zz, uu with
  | _, _ => [(h0, .inr (4, [.ref qs, .ref qc, .int 0, .int 0, .int 0]))]
def ex_CWr_init (k : gK) (h0 : Nat) (qs : Nat) (qc : Nat) (zz : Unit) (uu : Unit) : Prop := match zz, uu with
  | _, _ => True
def po_CWr_init (k : gK) (h0 : Nat) (qs : Nat) (qc : Nat) (uu : Unit) : Prop := match uu with
  | _ => True
def qc_CWr_init (D : va_G) (k : gK) (h0 : Nat) (qs : Nat) (qc : Nat) (A : Nat → Prop) : Array Value → State → Outcome → State → Prop := va_Qv (po_CWr_init k h0 qs qc) (fun uu t => ∃ zz, ex_CWr_init k h0 qs qc zz uu ∧ GP D A (wo_CWr_init k h0 qs qc zz uu) t) A
set_option maxHeartbeats 1000000 in
set_option maxRecDepth 100000 in
theorem c_CWr_init (l : Launch) (hl9 : l.stackTraces = false) (D : va_G) (k : gK) (h0 : Nat) (zsz : Nat) (qs : Nat) (qc : Nat) : Met l y_CWr_init (.code y_CWr_init b_CWr_init 3 none :: AW) ({ frames := 1, cells := 0, slots := 0, locals := 22 }) (va_Pc [.ref h0, .ref qs, .ref qc] (GG D k [(h0, .inr (4, [.null, .null, .int 0, .int 0, .int 0]))] zsz)) (qc_CWr_init D k h0 qs qc (va_A [(h0, .inr (4, [.null, .null, .int 0, .int 0, .int 0]))] zsz)) 0 0 (va_A [(h0, .inr (4, [.null, .null, .int 0, .int 0, .int 0]))] zsz) := by
  refine kMet (ws := [(h0, .inr (4, [.null, .null, .int 0, .int 0, .int 0]))]) (Qc := qc_CWr_init D k h0 qs qc) (by decide) (Nat.le_of_ble_eq_true rfl) (fun p e s m below meth c ls A H Cc hP hD hA hS hl => ?_)
  obtain ⟨hx, hb, hml, hr, hlk, hown, hts, hK, hE, hin⟩ := Cc
  have hl : lv_has ls 3 [(0, .ref h0), (1, .ref qs), (2, .ref qc)] := hl
  refine lv_aload_n hx hb d_CWr_init_0 rfl (lv_at hl 0 rfl) ?_
  refine W.objInit hx hb hown (hts (.methodLink R_CWr 3 objectInit) mw_75) (hts (.instanceMethod objectInit) mw_3) (hts (.code objectInit ⟨#[0xb1]⟩ 1 none) mw_4) rfl (by rw [hml]; exact hl.1) rfl d_CWr_init_1 (Nat.le_of_ble_eq_true rfl) (Nat.le_of_ble_eq_true rfl) ?_
  refine W.eq (g2 := F0 m 4 ls []) rfl ?_
  refine lv_aload_n hx hb d_CWr_init_4 rfl (lv_at hl 0 rfl) ?_
  refine lv_aload_n hx hb d_CWr_init_5 rfl (lv_at hl 1 rfl) ?_
  refine va_putF (D := D) (ci := 4) (v := .ref qs) (ty := .object "LikelyBits$Segment") (C := R_CWr) (T := T_CWr) (N := 5) hx hb hts inw_CWr ty_CWr tyok_CWr nm_CWr hown hK hP hD hS 0 rfl rfl 0 (by decide) (hts (.fieldLink R_CWr 9 "LikelyBits$CodedWriter" "segment" "LLikelyBits$Segment;") mw_76) (fun _ h9 => h9) rfl hin rfl (by decide +kernel) rfl rfl (Nat.le_of_ble_eq_true rfl) d_CWr_init_6 (fun H locs hP hD hS => ?_)
  have hP : va_P D vwCl [(h0, .inr (4, [.ref qs, .null, .int 0, .int 0, .int 0]))] H := hP
  have hD : va_D A [(h0, .inr (4, [.ref qs, .null, .int 0, .int 0, .int 0]))] := hD
  refine lv_aload_n hx hb d_CWr_init_9 rfl (lv_at hl 0 rfl) ?_
  refine lv_aload_n hx hb d_CWr_init_10 rfl (lv_at hl 2 rfl) ?_
  refine va_putF (D := D) (ci := 4) (v := .ref qc) (ty := .object "LikelyBits$Contexts") (C := R_CWr) (T := T_CWr) (N := 5) hx hb hts inw_CWr ty_CWr tyok_CWr nm_CWr hown hK hP hD hS 0 rfl rfl 1 (by decide) (hts (.fieldLink R_CWr 15 "LikelyBits$CodedWriter" "contexts" "LLikelyBits$Contexts;") mw_77) (fun _ h9 => h9) rfl hin rfl (by decide +kernel) rfl rfl (Nat.le_of_ble_eq_true rfl) d_CWr_init_11 (fun H locs hP hD hS => ?_)
  have hP : va_P D vwCl [(h0, .inr (4, [.ref qs, .ref qc, .int 0, .int 0, .int 0]))] H := hP
  have hD : va_D A [(h0, .inr (4, [.ref qs, .ref qc, .int 0, .int 0, .int 0]))] := hD
  exact krv (wo := wo_CWr_init k h0 qs qc) hx hb hr hlk hP hD hS () () trivial trivial [0] rfl (by decide) (Nat.le_of_ble_eq_true rfl) (Nat.le_of_ble_eq_true rfl) d_CWr_init_14

def wo_CWr_begin (k : gK) (h0 : Nat) (qs : Nat) (qc : Nat) (lo : Int32) (sz : Int32) (rm : Int32) (zz : Unit) (uu : Unit) : va_W := match zz, uu with
  | _, _ => [(h0, .inr (4, [.ref qs, .ref qc, .int 0, .int 32768, .int 12]))]
def ex_CWr_begin (k : gK) (h0 : Nat) (qs : Nat) (qc : Nat) (lo : Int32) (sz : Int32) (rm : Int32) (zz : Unit) (uu : Unit) : Prop := match zz, uu with
  | _, _ => True
def po_CWr_begin (k : gK) (h0 : Nat) (qs : Nat) (qc : Nat) (lo : Int32) (sz : Int32) (rm : Int32) (uu : Unit) : Prop := match uu with
  | _ => True
def qc_CWr_begin (D : va_G) (k : gK) (h0 : Nat) (qs : Nat) (qc : Nat) (lo : Int32) (sz : Int32) (rm : Int32) (A : Nat → Prop) : Array Value → State → Outcome → State → Prop := va_Qv (po_CWr_begin k h0 qs qc lo sz rm) (fun uu t => ∃ zz, ex_CWr_begin k h0 qs qc lo sz rm zz uu ∧ GP D A (wo_CWr_begin k h0 qs qc lo sz rm zz uu) t) A
set_option maxHeartbeats 1000000 in
set_option maxRecDepth 100000 in
theorem c_CWr_begin (l : Launch) (hl9 : l.stackTraces = false) (D : va_G) (k : gK) (h0 : Nat) (zsz : Nat) (qs : Nat) (qc : Nat) (lo : Int32) (sz : Int32) (rm : Int32) : Met l y_CWr_begin (.code y_CWr_begin b_CWr_begin 1 none :: AW) ({ frames := 0, cells := 0, slots := 0, locals := 0 }) (va_Pc [.ref h0] (GG D k [(h0, .inr (4, [.ref qs, .ref qc, .int lo, .int sz, .int rm]))] zsz)) (qc_CWr_begin D k h0 qs qc lo sz rm (va_A [(h0, .inr (4, [.ref qs, .ref qc, .int lo, .int sz, .int rm]))] zsz)) 0 0 (va_A [(h0, .inr (4, [.ref qs, .ref qc, .int lo, .int sz, .int rm]))] zsz) := by
  refine kMet (ws := [(h0, .inr (4, [.ref qs, .ref qc, .int lo, .int sz, .int rm]))]) (Qc := qc_CWr_begin D k h0 qs qc lo sz rm) (by decide) (Nat.le_of_ble_eq_true rfl) (fun p e s m below meth c ls A H Cc hP hD hA hS hl => ?_)
  obtain ⟨hx, hb, hml, hr, hlk, hown, hts, hK, hE, hin⟩ := Cc
  have hl : lv_has ls 1 [(0, .ref h0)] := hl
  refine lv_aload_n hx hb d_CWr_begin_0 rfl (lv_at hl 0 rfl) ?_
  refine lv_iconst (v := 0) hx hb d_CWr_begin_1 (by decide) ?_
  refine va_put (D := D) (ci := 4) (v := .int 0) (ty := .int) (C := R_CWr) (T := T_CWr) (N := 5) hx hb hts inw_CWr ty_CWr tyok_CWr nm_CWr hown hK hP hD hS 0 rfl rfl 2 (by decide) (hts (.fieldLink R_CWr 19 "LikelyBits$CodedWriter" "low" "I") mw_78) (fun _ h9 => h9) rfl (by decide +kernel) rfl rfl (Nat.le_of_ble_eq_true rfl) d_CWr_begin_2 (fun H locs hP hD hS => ?_)
  have hP : va_P D vwCl [(h0, .inr (4, [.ref qs, .ref qc, .int 0, .int sz, .int rm]))] H := hP
  have hD : va_D A [(h0, .inr (4, [.ref qs, .ref qc, .int 0, .int sz, .int rm]))] := hD
  refine lv_aload_n hx hb d_CWr_begin_5 rfl (lv_at hl 0 rfl) ?_
  refine lv_ldc (v := 32768) hx hb hown (hts (.constant R_CWr 23 32768) mw_79) d_CWr_begin_6 ?_
  refine va_put (D := D) (ci := 4) (v := .int 32768) (ty := .int) (C := R_CWr) (T := T_CWr) (N := 5) hx hb hts inw_CWr ty_CWr tyok_CWr nm_CWr hown hK hP hD hS 0 rfl rfl 3 (by decide) (hts (.fieldLink R_CWr 24 "LikelyBits$CodedWriter" "size" "I") mw_80) (fun _ h9 => h9) rfl (by decide +kernel) rfl rfl (Nat.le_of_ble_eq_true rfl) d_CWr_begin_8 (fun H locs hP hD hS => ?_)
  have hP : va_P D vwCl [(h0, .inr (4, [.ref qs, .ref qc, .int 0, .int 32768, .int rm]))] H := hP
  have hD : va_D A [(h0, .inr (4, [.ref qs, .ref qc, .int 0, .int 32768, .int rm]))] := hD
  refine lv_aload_n hx hb d_CWr_begin_11 rfl (lv_at hl 0 rfl) ?_
  refine lv_bipush (v := 12) hx hb d_CWr_begin_12 (by decide) ?_
  refine va_put (D := D) (ci := 4) (v := .int 12) (ty := .int) (C := R_CWr) (T := T_CWr) (N := 5) hx hb hts inw_CWr ty_CWr tyok_CWr nm_CWr hown hK hP hD hS 0 rfl rfl 4 (by decide) (hts (.fieldLink R_CWr 27 "LikelyBits$CodedWriter" "room" "I") mw_81) (fun _ h9 => h9) rfl (by decide +kernel) rfl rfl (Nat.le_of_ble_eq_true rfl) d_CWr_begin_14 (fun H locs hP hD hS => ?_)
  have hP : va_P D vwCl [(h0, .inr (4, [.ref qs, .ref qc, .int 0, .int 32768, .int 12]))] H := hP
  have hD : va_D A [(h0, .inr (4, [.ref qs, .ref qc, .int 0, .int 32768, .int 12]))] := hD
  exact krv (wo := wo_CWr_begin k h0 qs qc lo sz rm) hx hb hr hlk hP hD hS () () trivial trivial [0] rfl (by decide) (Nat.le_of_ble_eq_true rfl) (Nat.le_of_ble_eq_true rfl) d_CWr_begin_17

def wo_CWr_byteOut (k : gK) (h0 qs qr qa : Nat) (qc : Nat) (lo : Int32) (sz : Int32) (rm : Int32) (a : Int32) (n : Nat) (f : Nat → Int32) (u : Int32) (L : List Int32) (zz : Nat × (Nat → Int32) × Int32) (uu : Int32 × Int32 × Nat × List Int32) : va_W := match zz, uu with
  | (q2, f2, u2), (lo2, rm2, n2, L2) => [(h0, .inr (4, [.ref qs, .ref qc, .int lo2, .int sz, .int rm2])), (qs, .inr (2, [.ref qr, .int a])), (qr, .inr (0, [.ref q2, .int u2])), (q2, .inl (k.1, n2, .inl f2))]
def ex_CWr_byteOut (k : gK) (h0 qs qr qa : Nat) (qc : Nat) (lo : Int32) (sz : Int32) (rm : Int32) (a : Int32) (n : Nat) (f : Nat → Int32) (u : Int32) (L : List Int32) (zz : Nat × (Nat → Int32) × Int32) (uu : Int32 × Int32 × Nat × List Int32) : Prop := match zz, uu with
  | (q2, f2, u2), (lo2, rm2, n2, L2) => row_ok n2 f2 u2 L2
def po_CWr_byteOut (k : gK) (h0 qs qr qa : Nat) (qc : Nat) (lo : Int32) (sz : Int32) (rm : Int32) (a : Int32) (n : Nat) (f : Nat → Int32) (u : Int32) (L : List Int32) (uu : Int32 × Int32 × Nat × List Int32) : Prop := match uu with
  | (lo2, rm2, n2, L2) => lo2 = (bo a lo n L).1 ∧ rm2 = (bo a lo n L).2.1 ∧ n2 = (bo a lo n L).2.2.1 ∧ L2 = (bo a lo n L).2.2.2
def qc_CWr_byteOut (D : va_G) (k : gK) (h0 qs qr qa : Nat) (qc : Nat) (lo : Int32) (sz : Int32) (rm : Int32) (a : Int32) (n : Nat) (f : Nat → Int32) (u : Int32) (L : List Int32) (A : Nat → Prop) : Array Value → State → Outcome → State → Prop := va_Qv (po_CWr_byteOut k h0 qs qr qa qc lo sz rm a n f u L) (fun uu t => ∃ zz, ex_CWr_byteOut k h0 qs qr qa qc lo sz rm a n f u L zz uu ∧ GP D A (wo_CWr_byteOut k h0 qs qr qa qc lo sz rm a n f u L zz uu) t) A
set_option maxHeartbeats 1000000 in
set_option maxRecDepth 100000 in
theorem c_CWr_byteOut (l : Launch) (hl9 : l.stackTraces = false) (D : va_G) (k : gK) (h0 qs qr qa : Nat) (zsz : Nat) (qc : Nat) (lo : Int32) (sz : Int32) (rm : Int32) (a : Int32) (n : Nat) (f : Nat → Int32) (u : Int32) (L : List Int32) (hR : row_ok n f u L) : Met l y_CWr_byteOut (.code y_CWr_byteOut b_CWr_byteOut 3 none :: AW) ({ frames := 4, cells := (bo a lo n L).2.2.1 - n, slots := 2 * ((bo a lo n L).2.2.1 - n), locals := 124 }) (va_Pc [.ref h0] (GG D k [(h0, .inr (4, [.ref qs, .ref qc, .int lo, .int sz, .int rm])), (qs, .inr (2, [.ref qr, .int a])), (qr, .inr (0, [.ref qa, .int u])), (qa, .inl (k.1, n, .inl f))] zsz)) (qc_CWr_byteOut D k h0 qs qr qa qc lo sz rm a n f u L (va_A [(h0, .inr (4, [.ref qs, .ref qc, .int lo, .int sz, .int rm])), (qs, .inr (2, [.ref qr, .int a])), (qr, .inr (0, [.ref qa, .int u])), (qa, .inl (k.1, n, .inl f))] zsz)) ((bo a lo n L).2.2.1 - n) (2 * ((bo a lo n L).2.2.1 - n)) (va_A [(h0, .inr (4, [.ref qs, .ref qc, .int lo, .int sz, .int rm])), (qs, .inr (2, [.ref qr, .int a])), (qr, .inr (0, [.ref qa, .int u])), (qa, .inl (k.1, n, .inl f))] zsz) := by
  refine kMet (ws := [(h0, .inr (4, [.ref qs, .ref qc, .int lo, .int sz, .int rm])), (qs, .inr (2, [.ref qr, .int a])), (qr, .inr (0, [.ref qa, .int u])), (qa, .inl (k.1, n, .inl f))]) (Qc := qc_CWr_byteOut D k h0 qs qr qa qc lo sz rm a n f u L) (by decide) (Nat.le_of_ble_eq_true rfl) (fun p e s m below meth c ls A H Cc hP hD hA hS hl => ?_)
  obtain ⟨hx, hb, hml, hr, hlk, hown, hts, hK, hE, hin⟩ := Cc
  have hl : lv_has ls 3 [(0, .ref h0)] := hl
  refine lv_aload_n hx hb d_CWr_byteOut_0 rfl (lv_at hl 0 rfl) ?_
  refine va_get (D := D) (ci := 4) (v := .ref qs) (C := R_CWr) (T := T_CWr) (N := 5) hx hb hts inw_CWr hown hK hP 0 rfl rfl 0 (by decide) (hts (.fieldLink R_CWr 9 "LikelyBits$CodedWriter" "segment" "LLikelyBits$Segment;") mw_76) (fun _ h9 => h9) rfl d_CWr_byteOut_1 ?_
  refine kqi (va_runV (As := []) (rest := []) ⟨hx, hb, hml, hown, hts⟩ (c_Seg_last l hl9 D k qs qr qa a n f u L (by assumption)) (cwV 0 hts (gV mw_82 mw_68 mw_69 mw_53 mw_70) rfl rfl rfl (by decide +kernel) ⟨(Nat.le_of_ble_eq_true rfl), (Nat.le_of_ble_eq_true rfl)⟩) (kRecv (q := (R_Seg, T_Seg, 2)) (q0 := 1) (ci := 2) hK hP rfl rfl (kPreR (wc := [(qs, .inr (2, [.ref qr, .int a])), (qr, .inr (0, [.ref qa, .int u])), (qa, .inl (k.1, n, .inl f))]) hE hK hP hS [1, 2, 3] rfl)) rfl rfl hl.1 rfl (lv_room (Nat.le_of_ble_eq_true rfl)) d_CWr_byteOut_4 ⟨(Nat.le_of_ble_eq_true rfl), (Nat.le_of_ble_eq_true rfl)⟩) hP hS (fun r1 H locs hw hP hS => ?_)
  replace hw := hw.symm
  subst hw
  refine lv_topi (fun x2 ex2 => ?_)
  refine lv_istore_n (lv' := [(1, .int x2), (0, .ref h0)]) hx hb d_CWr_byteOut_7 rfl hl (by decide) rfl (fun ls hl => ?_)
  refine lv_iload_n hx hb d_CWr_byteOut_8 rfl (lv_at hl 0 rfl) ?_
  refine lv_iconst (v := -1) hx hb d_CWr_byteOut_9 (by decide) ?_
  refine lv_icmp_eq (tgt := 51) hx hb d_CWr_byteOut_10 (by decide) (fun c3 => ?_) (fun c3 => ?_)
  · refine lv_aload_n hx hb d_CWr_byteOut_51 rfl (lv_at hl 1 rfl) ?_
    refine lv_iload_n hx hb d_CWr_byteOut_52 rfl (lv_at hl 0 rfl) ?_
    refine lv_sipush (v := 255) hx hb d_CWr_byteOut_53 (by decide) ?_
    refine lv_icmp_ne (tgt := 64) hx hb d_CWr_byteOut_56 (by decide) (fun c4 => ?_) (fun c4 => ?_)
    · refine lv_bipush (v := 8) hx hb d_CWr_byteOut_64 (by decide) ?_
      refine va_put (D := D) (ci := 4) (v := .int 8) (ty := .int) (C := R_CWr) (T := T_CWr) (N := 5) hx hb hts inw_CWr ty_CWr tyok_CWr nm_CWr hown hK hP hD hS 0 rfl rfl 4 (by decide) (hts (.fieldLink R_CWr 27 "LikelyBits$CodedWriter" "room" "I") mw_81) (fun _ h9 => h9) rfl (by decide +kernel) rfl rfl (Nat.le_of_ble_eq_true rfl) d_CWr_byteOut_66 (fun H locs hP hD hS => ?_)
      have hP : va_P D vwCl [(h0, .inr (4, [.ref qs, .ref qc, .int lo, .int sz, .int 8])), (qs, .inr (2, [.ref qr, .int a])), (qr, .inr (0, [.ref qa, .int u])), (qa, .inl (k.1, n, .inl f))] H := hP
      have hD : va_D A [(h0, .inr (4, [.ref qs, .ref qc, .int lo, .int sz, .int 8])), (qs, .inr (2, [.ref qr, .int a])), (qr, .inr (0, [.ref qa, .int u])), (qa, .inl (k.1, n, .inl f))] := hD
      refine lv_bipush (v := 27) hx hb d_CWr_byteOut_69 (by decide) ?_
      refine lv_aload_n hx hb d_CWr_byteOut_71 rfl (lv_at hl 1 rfl) ?_
      refine va_get (D := D) (ci := 4) (v := .int 8) (C := R_CWr) (T := T_CWr) (N := 5) hx hb hts inw_CWr hown hK hP 0 rfl rfl 4 (by decide) (hts (.fieldLink R_CWr 27 "LikelyBits$CodedWriter" "room" "I") mw_81) (fun _ h9 => h9) rfl d_CWr_byteOut_72 ?_
      refine lv_isub hx hb d_CWr_byteOut_75 ?_
      refine lv_topi (fun x5 ex5 => ?_)
      refine lv_istore_n (lv' := [(2, .int x5), (1, .int x2), (0, .ref h0)]) hx hb d_CWr_byteOut_76 rfl hl (by decide) rfl (fun ls hl => ?_)
      refine lv_aload_n hx hb d_CWr_byteOut_77 rfl (lv_at hl 2 rfl) ?_
      refine va_get (D := D) (ci := 4) (v := .ref qs) (C := R_CWr) (T := T_CWr) (N := 5) hx hb hts inw_CWr hown hK hP 0 rfl rfl 0 (by decide) (hts (.fieldLink R_CWr 9 "LikelyBits$CodedWriter" "segment" "LLikelyBits$Segment;") mw_76) (fun _ h9 => h9) rfl d_CWr_byteOut_78 ?_
      refine lv_aload_n hx hb d_CWr_byteOut_81 rfl (lv_at hl 2 rfl) ?_
      refine va_get (D := D) (ci := 4) (v := .int lo) (C := R_CWr) (T := T_CWr) (N := 5) hx hb hts inw_CWr hown hK hP 0 rfl rfl 2 (by decide) (hts (.fieldLink R_CWr 19 "LikelyBits$CodedWriter" "low" "I") mw_78) (fun _ h9 => h9) rfl d_CWr_byteOut_82 ?_
      refine lv_iload_n hx hb d_CWr_byteOut_85 rfl (lv_at hl 0 rfl) ?_
      refine lv_iushr (v := jushr lo x5) hx hb d_CWr_byteOut_86 rfl ?_
      refine lv_sipush (v := 255) hx hb d_CWr_byteOut_87 (by decide) ?_
      refine lv_iand hx hb d_CWr_byteOut_90 ?_
      have hbn : (bo a lo n L).2.2.1 = apn n L := (by subst ex5; subst ex2; simp [bo, bo2, bo3, c3, c4])
      refine kcv (wc := [(qs, .inr (2, [.ref qr, .int a])), (qr, .inr (0, [.ref qa, .int u])), (qa, .inl (k.1, n, .inl f))]) (wr := [(h0, .inr (4, [.ref qs, .ref qc, .int lo, .int sz, .int 8]))]) (va_runV (As := [.int ((jushr lo x5) &&& 255)]) (rest := []) ⟨hx, hb, hml, hown, hts⟩ (c_Seg_append l hl9 D k qs qr qa H.size a n f u L ((jushr lo x5) &&& 255) (by assumption)) (cwV 1 hts (gV mw_83 mw_84 mw_85 mw_53 mw_86) rfl rfl rfl (by decide +kernel) ⟨(Nat.le_of_ble_eq_true rfl), (Nat.le_of_ble_eq_true rfl)⟩) (kRecv (q := (R_Seg, T_Seg, 2)) (q0 := 1) (ci := 2) hK hP rfl rfl (kPre (wc := [(qs, .inr (2, [.ref qr, .int a])), (qr, .inr (0, [.ref qa, .int u])), (qa, .inl (k.1, n, .inl f))]) hE hK hP hD hS hA [1, 2, 3] rfl (by decide))) rfl rfl hl.1 rfl (lv_room (Nat.le_of_ble_eq_true rfl)) d_CWr_byteOut_91 ⟨(by first | omega | (dsimp only; omega)), (by first | omega | (dsimp only; omega))⟩) hP hD hS hA [1, 2, 3] [0] rfl rfl (by decide) (by decide) (fun zz uu H locs hw12 hz13 hP hD hS => ?_)
      obtain ⟨q_8, f_9, u_10⟩ := zz
      obtain ⟨n_6, L_7⟩ := uu
      have hw12 : n_6 = apn n L ∧ L_7 = app L ((jushr lo x5) &&& 255) := hw12
      have hz13 : row_ok n_6 f_9 u_10 L_7 := hz13
      have hP : va_P D vwCl [(h0, .inr (4, [.ref qs, .ref qc, .int lo, .int sz, .int 8])), (qs, .inr (2, [.ref qr, .int a])), (qr, .inr (0, [.ref q_8, .int u_10])), (q_8, .inl (k.1, n_6, .inl f_9))] H := hP
      have hD : va_D A [(h0, .inr (4, [.ref qs, .ref qc, .int lo, .int sz, .int 8])), (qs, .inr (2, [.ref qr, .int a])), (qr, .inr (0, [.ref q_8, .int u_10])), (q_8, .inl (k.1, n_6, .inl f_9))] := hD
      refine lv_aload_n hx hb d_CWr_byteOut_94 rfl (lv_at hl 2 rfl) ?_
      refine lv_dup hx hb d_CWr_byteOut_95 rfl ?_
      refine va_get (D := D) (ci := 4) (v := .int lo) (C := R_CWr) (T := T_CWr) (N := 5) hx hb hts inw_CWr hown hK hP 0 rfl rfl 2 (by decide) (hts (.fieldLink R_CWr 19 "LikelyBits$CodedWriter" "low" "I") mw_78) (fun _ h9 => h9) rfl d_CWr_byteOut_96 ?_
      refine lv_iconst (v := 1) hx hb d_CWr_byteOut_99 (by decide) ?_
      refine lv_iload_n hx hb d_CWr_byteOut_100 rfl (lv_at hl 0 rfl) ?_
      refine lv_ishl hx hb d_CWr_byteOut_101 ?_
      refine lv_iconst (v := 1) hx hb d_CWr_byteOut_102 (by decide) ?_
      refine lv_isub hx hb d_CWr_byteOut_103 ?_
      refine lv_iand hx hb d_CWr_byteOut_104 ?_
      refine lv_topi (fun x14 ex14 => ?_)
      refine va_put (D := D) (ci := 4) (v := .int x14) (ty := .int) (C := R_CWr) (T := T_CWr) (N := 5) hx hb hts inw_CWr ty_CWr tyok_CWr nm_CWr hown hK hP hD hS 0 rfl rfl 2 (by decide) (hts (.fieldLink R_CWr 19 "LikelyBits$CodedWriter" "low" "I") mw_78) (fun _ h9 => h9) rfl (by decide +kernel) rfl rfl (Nat.le_of_ble_eq_true rfl) d_CWr_byteOut_105 (fun H locs hP hD hS => ?_)
      have hP : va_P D vwCl [(h0, .inr (4, [.ref qs, .ref qc, .int x14, .int sz, .int 8])), (qs, .inr (2, [.ref qr, .int a])), (qr, .inr (0, [.ref q_8, .int u_10])), (q_8, .inl (k.1, n_6, .inl f_9))] H := hP
      have hD : va_D A [(h0, .inr (4, [.ref qs, .ref qc, .int x14, .int sz, .int 8])), (qs, .inr (2, [.ref qr, .int a])), (qr, .inr (0, [.ref q_8, .int u_10])), (q_8, .inl (k.1, n_6, .inl f_9))] := hD
      exact krv (wo := wo_CWr_byteOut k h0 qs qr qa qc lo sz rm a n f u L) hx hb hr hlk hP hD hS (x14, 8, n_6, L_7) (q_8, f_9, u_10) (by subst ex14; obtain ⟨rfl, rfl⟩ := hw12; subst ex5; subst ex2; simp [po_CWr_byteOut, bo, bo2, bo3, c3, c4]) (by assumption) [0, 1, 2, 3] rfl (by decide) (by first | omega | (dsimp only; omega)) (by first | omega | (dsimp only; omega)) d_CWr_byteOut_108
    · exact absurd (c3.symm.trans c4) (by decide)
  · refine lv_iload_n hx hb d_CWr_byteOut_13 rfl (lv_at hl 0 rfl) ?_
    refine lv_sipush (v := 255) hx hb d_CWr_byteOut_14 (by decide) ?_
    refine lv_icmp_eq (tgt := 51) hx hb d_CWr_byteOut_17 (by decide) (fun c15 => ?_) (fun c15 => ?_)
    · refine lv_aload_n hx hb d_CWr_byteOut_51 rfl (lv_at hl 1 rfl) ?_
      refine lv_iload_n hx hb d_CWr_byteOut_52 rfl (lv_at hl 0 rfl) ?_
      refine lv_sipush (v := 255) hx hb d_CWr_byteOut_53 (by decide) ?_
      refine lv_icmp_ne (tgt := 64) hx hb d_CWr_byteOut_56 (by decide) (fun c16 => ?_) (fun c16 => ?_)
      · exact absurd c15 c16
      · refine lv_bipush (v := 7) hx hb d_CWr_byteOut_59 (by decide) ?_
        refine lv_goto (tgt := 66) hx hb d_CWr_byteOut_61 (by decide) ?_
        refine va_put (D := D) (ci := 4) (v := .int 7) (ty := .int) (C := R_CWr) (T := T_CWr) (N := 5) hx hb hts inw_CWr ty_CWr tyok_CWr nm_CWr hown hK hP hD hS 0 rfl rfl 4 (by decide) (hts (.fieldLink R_CWr 27 "LikelyBits$CodedWriter" "room" "I") mw_81) (fun _ h9 => h9) rfl (by decide +kernel) rfl rfl (Nat.le_of_ble_eq_true rfl) d_CWr_byteOut_66 (fun H locs hP hD hS => ?_)
        have hP : va_P D vwCl [(h0, .inr (4, [.ref qs, .ref qc, .int lo, .int sz, .int 7])), (qs, .inr (2, [.ref qr, .int a])), (qr, .inr (0, [.ref qa, .int u])), (qa, .inl (k.1, n, .inl f))] H := hP
        have hD : va_D A [(h0, .inr (4, [.ref qs, .ref qc, .int lo, .int sz, .int 7])), (qs, .inr (2, [.ref qr, .int a])), (qr, .inr (0, [.ref qa, .int u])), (qa, .inl (k.1, n, .inl f))] := hD
        refine lv_bipush (v := 27) hx hb d_CWr_byteOut_69 (by decide) ?_
        refine lv_aload_n hx hb d_CWr_byteOut_71 rfl (lv_at hl 1 rfl) ?_
        refine va_get (D := D) (ci := 4) (v := .int 7) (C := R_CWr) (T := T_CWr) (N := 5) hx hb hts inw_CWr hown hK hP 0 rfl rfl 4 (by decide) (hts (.fieldLink R_CWr 27 "LikelyBits$CodedWriter" "room" "I") mw_81) (fun _ h9 => h9) rfl d_CWr_byteOut_72 ?_
        refine lv_isub hx hb d_CWr_byteOut_75 ?_
        refine lv_topi (fun x17 ex17 => ?_)
        refine lv_istore_n (lv' := [(2, .int x17), (1, .int x2), (0, .ref h0)]) hx hb d_CWr_byteOut_76 rfl hl (by decide) rfl (fun ls hl => ?_)
        refine lv_aload_n hx hb d_CWr_byteOut_77 rfl (lv_at hl 2 rfl) ?_
        refine va_get (D := D) (ci := 4) (v := .ref qs) (C := R_CWr) (T := T_CWr) (N := 5) hx hb hts inw_CWr hown hK hP 0 rfl rfl 0 (by decide) (hts (.fieldLink R_CWr 9 "LikelyBits$CodedWriter" "segment" "LLikelyBits$Segment;") mw_76) (fun _ h9 => h9) rfl d_CWr_byteOut_78 ?_
        refine lv_aload_n hx hb d_CWr_byteOut_81 rfl (lv_at hl 2 rfl) ?_
        refine va_get (D := D) (ci := 4) (v := .int lo) (C := R_CWr) (T := T_CWr) (N := 5) hx hb hts inw_CWr hown hK hP 0 rfl rfl 2 (by decide) (hts (.fieldLink R_CWr 19 "LikelyBits$CodedWriter" "low" "I") mw_78) (fun _ h9 => h9) rfl d_CWr_byteOut_82 ?_
        refine lv_iload_n hx hb d_CWr_byteOut_85 rfl (lv_at hl 0 rfl) ?_
        refine lv_iushr (v := jushr lo x17) hx hb d_CWr_byteOut_86 rfl ?_
        refine lv_sipush (v := 255) hx hb d_CWr_byteOut_87 (by decide) ?_
        refine lv_iand hx hb d_CWr_byteOut_90 ?_
        have hbn : (bo a lo n L).2.2.1 = apn n L := (by subst ex17; subst ex2; simp [bo, bo2, bo3, c3, c15, c16])
        refine kcv (wc := [(qs, .inr (2, [.ref qr, .int a])), (qr, .inr (0, [.ref qa, .int u])), (qa, .inl (k.1, n, .inl f))]) (wr := [(h0, .inr (4, [.ref qs, .ref qc, .int lo, .int sz, .int 7]))]) (va_runV (As := [.int ((jushr lo x17) &&& 255)]) (rest := []) ⟨hx, hb, hml, hown, hts⟩ (c_Seg_append l hl9 D k qs qr qa H.size a n f u L ((jushr lo x17) &&& 255) (by assumption)) (cwV 1 hts (gV mw_83 mw_84 mw_85 mw_53 mw_86) rfl rfl rfl (by decide +kernel) ⟨(Nat.le_of_ble_eq_true rfl), (Nat.le_of_ble_eq_true rfl)⟩) (kRecv (q := (R_Seg, T_Seg, 2)) (q0 := 1) (ci := 2) hK hP rfl rfl (kPre (wc := [(qs, .inr (2, [.ref qr, .int a])), (qr, .inr (0, [.ref qa, .int u])), (qa, .inl (k.1, n, .inl f))]) hE hK hP hD hS hA [1, 2, 3] rfl (by decide))) rfl rfl hl.1 rfl (lv_room (Nat.le_of_ble_eq_true rfl)) d_CWr_byteOut_91 ⟨(by first | omega | (dsimp only; omega)), (by first | omega | (dsimp only; omega))⟩) hP hD hS hA [1, 2, 3] [0] rfl rfl (by decide) (by decide) (fun zz uu H locs hw24 hz25 hP hD hS => ?_)
        obtain ⟨q_20, f_21, u_22⟩ := zz
        obtain ⟨n_18, L_19⟩ := uu
        have hw24 : n_18 = apn n L ∧ L_19 = app L ((jushr lo x17) &&& 255) := hw24
        have hz25 : row_ok n_18 f_21 u_22 L_19 := hz25
        have hP : va_P D vwCl [(h0, .inr (4, [.ref qs, .ref qc, .int lo, .int sz, .int 7])), (qs, .inr (2, [.ref qr, .int a])), (qr, .inr (0, [.ref q_20, .int u_22])), (q_20, .inl (k.1, n_18, .inl f_21))] H := hP
        have hD : va_D A [(h0, .inr (4, [.ref qs, .ref qc, .int lo, .int sz, .int 7])), (qs, .inr (2, [.ref qr, .int a])), (qr, .inr (0, [.ref q_20, .int u_22])), (q_20, .inl (k.1, n_18, .inl f_21))] := hD
        refine lv_aload_n hx hb d_CWr_byteOut_94 rfl (lv_at hl 2 rfl) ?_
        refine lv_dup hx hb d_CWr_byteOut_95 rfl ?_
        refine va_get (D := D) (ci := 4) (v := .int lo) (C := R_CWr) (T := T_CWr) (N := 5) hx hb hts inw_CWr hown hK hP 0 rfl rfl 2 (by decide) (hts (.fieldLink R_CWr 19 "LikelyBits$CodedWriter" "low" "I") mw_78) (fun _ h9 => h9) rfl d_CWr_byteOut_96 ?_
        refine lv_iconst (v := 1) hx hb d_CWr_byteOut_99 (by decide) ?_
        refine lv_iload_n hx hb d_CWr_byteOut_100 rfl (lv_at hl 0 rfl) ?_
        refine lv_ishl hx hb d_CWr_byteOut_101 ?_
        refine lv_iconst (v := 1) hx hb d_CWr_byteOut_102 (by decide) ?_
        refine lv_isub hx hb d_CWr_byteOut_103 ?_
        refine lv_iand hx hb d_CWr_byteOut_104 ?_
        refine lv_topi (fun x26 ex26 => ?_)
        refine va_put (D := D) (ci := 4) (v := .int x26) (ty := .int) (C := R_CWr) (T := T_CWr) (N := 5) hx hb hts inw_CWr ty_CWr tyok_CWr nm_CWr hown hK hP hD hS 0 rfl rfl 2 (by decide) (hts (.fieldLink R_CWr 19 "LikelyBits$CodedWriter" "low" "I") mw_78) (fun _ h9 => h9) rfl (by decide +kernel) rfl rfl (Nat.le_of_ble_eq_true rfl) d_CWr_byteOut_105 (fun H locs hP hD hS => ?_)
        have hP : va_P D vwCl [(h0, .inr (4, [.ref qs, .ref qc, .int x26, .int sz, .int 7])), (qs, .inr (2, [.ref qr, .int a])), (qr, .inr (0, [.ref q_20, .int u_22])), (q_20, .inl (k.1, n_18, .inl f_21))] H := hP
        have hD : va_D A [(h0, .inr (4, [.ref qs, .ref qc, .int x26, .int sz, .int 7])), (qs, .inr (2, [.ref qr, .int a])), (qr, .inr (0, [.ref q_20, .int u_22])), (q_20, .inl (k.1, n_18, .inl f_21))] := hD
        exact krv (wo := wo_CWr_byteOut k h0 qs qr qa qc lo sz rm a n f u L) hx hb hr hlk hP hD hS (x26, 7, n_18, L_19) (q_20, f_21, u_22) (by subst ex26; obtain ⟨rfl, rfl⟩ := hw24; subst ex17; subst ex2; simp [po_CWr_byteOut, bo, bo2, bo3, c3, c15, c16]) (by assumption) [0, 1, 2, 3] rfl (by decide) (by first | omega | (dsimp only; omega)) (by first | omega | (dsimp only; omega)) d_CWr_byteOut_108
    · refine lv_aload_n hx hb d_CWr_byteOut_20 rfl (lv_at hl 1 rfl) ?_
      refine va_get (D := D) (ci := 4) (v := .int lo) (C := R_CWr) (T := T_CWr) (N := 5) hx hb hts inw_CWr hown hK hP 0 rfl rfl 2 (by decide) (hts (.fieldLink R_CWr 19 "LikelyBits$CodedWriter" "low" "I") mw_78) (fun _ h9 => h9) rfl d_CWr_byteOut_21 ?_
      refine lv_ldc (v := 134217728) hx hb hown (hts (.constant R_CWr 65 134217728) mw_87) d_CWr_byteOut_24 ?_
      refine lv_icmp_lt (tgt := 51) hx hb d_CWr_byteOut_26 (by decide) (fun c27 => ?_) (fun c27 => ?_)
      · refine lv_aload_n hx hb d_CWr_byteOut_51 rfl (lv_at hl 1 rfl) ?_
        refine lv_iload_n hx hb d_CWr_byteOut_52 rfl (lv_at hl 0 rfl) ?_
        refine lv_sipush (v := 255) hx hb d_CWr_byteOut_53 (by decide) ?_
        refine lv_icmp_ne (tgt := 64) hx hb d_CWr_byteOut_56 (by decide) (fun c28 => ?_) (fun c28 => ?_)
        · refine lv_bipush (v := 8) hx hb d_CWr_byteOut_64 (by decide) ?_
          refine va_put (D := D) (ci := 4) (v := .int 8) (ty := .int) (C := R_CWr) (T := T_CWr) (N := 5) hx hb hts inw_CWr ty_CWr tyok_CWr nm_CWr hown hK hP hD hS 0 rfl rfl 4 (by decide) (hts (.fieldLink R_CWr 27 "LikelyBits$CodedWriter" "room" "I") mw_81) (fun _ h9 => h9) rfl (by decide +kernel) rfl rfl (Nat.le_of_ble_eq_true rfl) d_CWr_byteOut_66 (fun H locs hP hD hS => ?_)
          have hP : va_P D vwCl [(h0, .inr (4, [.ref qs, .ref qc, .int lo, .int sz, .int 8])), (qs, .inr (2, [.ref qr, .int a])), (qr, .inr (0, [.ref qa, .int u])), (qa, .inl (k.1, n, .inl f))] H := hP
          have hD : va_D A [(h0, .inr (4, [.ref qs, .ref qc, .int lo, .int sz, .int 8])), (qs, .inr (2, [.ref qr, .int a])), (qr, .inr (0, [.ref qa, .int u])), (qa, .inl (k.1, n, .inl f))] := hD
          refine lv_bipush (v := 27) hx hb d_CWr_byteOut_69 (by decide) ?_
          refine lv_aload_n hx hb d_CWr_byteOut_71 rfl (lv_at hl 1 rfl) ?_
          refine va_get (D := D) (ci := 4) (v := .int 8) (C := R_CWr) (T := T_CWr) (N := 5) hx hb hts inw_CWr hown hK hP 0 rfl rfl 4 (by decide) (hts (.fieldLink R_CWr 27 "LikelyBits$CodedWriter" "room" "I") mw_81) (fun _ h9 => h9) rfl d_CWr_byteOut_72 ?_
          refine lv_isub hx hb d_CWr_byteOut_75 ?_
          refine lv_topi (fun x29 ex29 => ?_)
          refine lv_istore_n (lv' := [(2, .int x29), (1, .int x2), (0, .ref h0)]) hx hb d_CWr_byteOut_76 rfl hl (by decide) rfl (fun ls hl => ?_)
          refine lv_aload_n hx hb d_CWr_byteOut_77 rfl (lv_at hl 2 rfl) ?_
          refine va_get (D := D) (ci := 4) (v := .ref qs) (C := R_CWr) (T := T_CWr) (N := 5) hx hb hts inw_CWr hown hK hP 0 rfl rfl 0 (by decide) (hts (.fieldLink R_CWr 9 "LikelyBits$CodedWriter" "segment" "LLikelyBits$Segment;") mw_76) (fun _ h9 => h9) rfl d_CWr_byteOut_78 ?_
          refine lv_aload_n hx hb d_CWr_byteOut_81 rfl (lv_at hl 2 rfl) ?_
          refine va_get (D := D) (ci := 4) (v := .int lo) (C := R_CWr) (T := T_CWr) (N := 5) hx hb hts inw_CWr hown hK hP 0 rfl rfl 2 (by decide) (hts (.fieldLink R_CWr 19 "LikelyBits$CodedWriter" "low" "I") mw_78) (fun _ h9 => h9) rfl d_CWr_byteOut_82 ?_
          refine lv_iload_n hx hb d_CWr_byteOut_85 rfl (lv_at hl 0 rfl) ?_
          refine lv_iushr (v := jushr lo x29) hx hb d_CWr_byteOut_86 rfl ?_
          refine lv_sipush (v := 255) hx hb d_CWr_byteOut_87 (by decide) ?_
          refine lv_iand hx hb d_CWr_byteOut_90 ?_
          have hbn : (bo a lo n L).2.2.1 = apn n L := (by subst ex29; subst ex2; simp [bo, bo2, bo3, c3, c15, c27, c28])
          refine kcv (wc := [(qs, .inr (2, [.ref qr, .int a])), (qr, .inr (0, [.ref qa, .int u])), (qa, .inl (k.1, n, .inl f))]) (wr := [(h0, .inr (4, [.ref qs, .ref qc, .int lo, .int sz, .int 8]))]) (va_runV (As := [.int ((jushr lo x29) &&& 255)]) (rest := []) ⟨hx, hb, hml, hown, hts⟩ (c_Seg_append l hl9 D k qs qr qa H.size a n f u L ((jushr lo x29) &&& 255) (by assumption)) (cwV 1 hts (gV mw_83 mw_84 mw_85 mw_53 mw_86) rfl rfl rfl (by decide +kernel) ⟨(Nat.le_of_ble_eq_true rfl), (Nat.le_of_ble_eq_true rfl)⟩) (kRecv (q := (R_Seg, T_Seg, 2)) (q0 := 1) (ci := 2) hK hP rfl rfl (kPre (wc := [(qs, .inr (2, [.ref qr, .int a])), (qr, .inr (0, [.ref qa, .int u])), (qa, .inl (k.1, n, .inl f))]) hE hK hP hD hS hA [1, 2, 3] rfl (by decide))) rfl rfl hl.1 rfl (lv_room (Nat.le_of_ble_eq_true rfl)) d_CWr_byteOut_91 ⟨(by first | omega | (dsimp only; omega)), (by first | omega | (dsimp only; omega))⟩) hP hD hS hA [1, 2, 3] [0] rfl rfl (by decide) (by decide) (fun zz uu H locs hw36 hz37 hP hD hS => ?_)
          obtain ⟨q_32, f_33, u_34⟩ := zz
          obtain ⟨n_30, L_31⟩ := uu
          have hw36 : n_30 = apn n L ∧ L_31 = app L ((jushr lo x29) &&& 255) := hw36
          have hz37 : row_ok n_30 f_33 u_34 L_31 := hz37
          have hP : va_P D vwCl [(h0, .inr (4, [.ref qs, .ref qc, .int lo, .int sz, .int 8])), (qs, .inr (2, [.ref qr, .int a])), (qr, .inr (0, [.ref q_32, .int u_34])), (q_32, .inl (k.1, n_30, .inl f_33))] H := hP
          have hD : va_D A [(h0, .inr (4, [.ref qs, .ref qc, .int lo, .int sz, .int 8])), (qs, .inr (2, [.ref qr, .int a])), (qr, .inr (0, [.ref q_32, .int u_34])), (q_32, .inl (k.1, n_30, .inl f_33))] := hD
          refine lv_aload_n hx hb d_CWr_byteOut_94 rfl (lv_at hl 2 rfl) ?_
          refine lv_dup hx hb d_CWr_byteOut_95 rfl ?_
          refine va_get (D := D) (ci := 4) (v := .int lo) (C := R_CWr) (T := T_CWr) (N := 5) hx hb hts inw_CWr hown hK hP 0 rfl rfl 2 (by decide) (hts (.fieldLink R_CWr 19 "LikelyBits$CodedWriter" "low" "I") mw_78) (fun _ h9 => h9) rfl d_CWr_byteOut_96 ?_
          refine lv_iconst (v := 1) hx hb d_CWr_byteOut_99 (by decide) ?_
          refine lv_iload_n hx hb d_CWr_byteOut_100 rfl (lv_at hl 0 rfl) ?_
          refine lv_ishl hx hb d_CWr_byteOut_101 ?_
          refine lv_iconst (v := 1) hx hb d_CWr_byteOut_102 (by decide) ?_
          refine lv_isub hx hb d_CWr_byteOut_103 ?_
          refine lv_iand hx hb d_CWr_byteOut_104 ?_
          refine lv_topi (fun x38 ex38 => ?_)
          refine va_put (D := D) (ci := 4) (v := .int x38) (ty := .int) (C := R_CWr) (T := T_CWr) (N := 5) hx hb hts inw_CWr ty_CWr tyok_CWr nm_CWr hown hK hP hD hS 0 rfl rfl 2 (by decide) (hts (.fieldLink R_CWr 19 "LikelyBits$CodedWriter" "low" "I") mw_78) (fun _ h9 => h9) rfl (by decide +kernel) rfl rfl (Nat.le_of_ble_eq_true rfl) d_CWr_byteOut_105 (fun H locs hP hD hS => ?_)
          have hP : va_P D vwCl [(h0, .inr (4, [.ref qs, .ref qc, .int x38, .int sz, .int 8])), (qs, .inr (2, [.ref qr, .int a])), (qr, .inr (0, [.ref q_32, .int u_34])), (q_32, .inl (k.1, n_30, .inl f_33))] H := hP
          have hD : va_D A [(h0, .inr (4, [.ref qs, .ref qc, .int x38, .int sz, .int 8])), (qs, .inr (2, [.ref qr, .int a])), (qr, .inr (0, [.ref q_32, .int u_34])), (q_32, .inl (k.1, n_30, .inl f_33))] := hD
          exact krv (wo := wo_CWr_byteOut k h0 qs qr qa qc lo sz rm a n f u L) hx hb hr hlk hP hD hS (x38, 8, n_30, L_31) (q_32, f_33, u_34) (by subst ex38; obtain ⟨rfl, rfl⟩ := hw36; subst ex29; subst ex2; simp [po_CWr_byteOut, bo, bo2, bo3, c3, c15, c27, c28]) (by assumption) [0, 1, 2, 3] rfl (by decide) (by first | omega | (dsimp only; omega)) (by first | omega | (dsimp only; omega)) d_CWr_byteOut_108
        · exact absurd c28 c15
      · refine lv_aload_n hx hb d_CWr_byteOut_29 rfl (lv_at hl 1 rfl) ?_
        refine lv_dup hx hb d_CWr_byteOut_30 rfl ?_
        refine va_get (D := D) (ci := 4) (v := .int lo) (C := R_CWr) (T := T_CWr) (N := 5) hx hb hts inw_CWr hown hK hP 0 rfl rfl 2 (by decide) (hts (.fieldLink R_CWr 19 "LikelyBits$CodedWriter" "low" "I") mw_78) (fun _ h9 => h9) rfl d_CWr_byteOut_31 ?_
        refine lv_ldc (v := 134217728) hx hb hown (hts (.constant R_CWr 65 134217728) mw_87) d_CWr_byteOut_34 ?_
        refine lv_isub hx hb d_CWr_byteOut_36 ?_
        refine lv_topi (fun x39 ex39 => ?_)
        refine va_put (D := D) (ci := 4) (v := .int x39) (ty := .int) (C := R_CWr) (T := T_CWr) (N := 5) hx hb hts inw_CWr ty_CWr tyok_CWr nm_CWr hown hK hP hD hS 0 rfl rfl 2 (by decide) (hts (.fieldLink R_CWr 19 "LikelyBits$CodedWriter" "low" "I") mw_78) (fun _ h9 => h9) rfl (by decide +kernel) rfl rfl (Nat.le_of_ble_eq_true rfl) d_CWr_byteOut_37 (fun H locs hP hD hS => ?_)
        have hP : va_P D vwCl [(h0, .inr (4, [.ref qs, .ref qc, .int x39, .int sz, .int rm])), (qs, .inr (2, [.ref qr, .int a])), (qr, .inr (0, [.ref qa, .int u])), (qa, .inl (k.1, n, .inl f))] H := hP
        have hD : va_D A [(h0, .inr (4, [.ref qs, .ref qc, .int x39, .int sz, .int rm])), (qs, .inr (2, [.ref qr, .int a])), (qr, .inr (0, [.ref qa, .int u])), (qa, .inl (k.1, n, .inl f))] := hD
        obtain ⟨x40, ex40⟩ : ∃ y : Int32, y = x2 + 1 := ⟨_, rfl⟩
        refine lv_iinc (v := x40) (lv' := [(1, .int x40), (0, .ref h0)]) hx hb d_CWr_byteOut_40 hl (k := 0) rfl (by rw [ex40]; rfl) (by decide) rfl (fun ls hl => ?_)
        refine lv_aload_n hx hb d_CWr_byteOut_43 rfl (lv_at hl 1 rfl) ?_
        refine va_get (D := D) (ci := 4) (v := .ref qs) (C := R_CWr) (T := T_CWr) (N := 5) hx hb hts inw_CWr hown hK hP 0 rfl rfl 0 (by decide) (hts (.fieldLink R_CWr 9 "LikelyBits$CodedWriter" "segment" "LLikelyBits$Segment;") mw_76) (fun _ h9 => h9) rfl d_CWr_byteOut_44 ?_
        refine lv_iload_n hx hb d_CWr_byteOut_47 rfl (lv_at hl 0 rfl) ?_
        refine kcv (wc := [(qs, .inr (2, [.ref qr, .int a])), (qr, .inr (0, [.ref qa, .int u])), (qa, .inl (k.1, n, .inl f))]) (wr := [(h0, .inr (4, [.ref qs, .ref qc, .int x39, .int sz, .int rm]))]) (va_runV (As := [.int x40]) (rest := []) ⟨hx, hb, hml, hown, hts⟩ (c_Seg_changeLast l hl9 D k qs qr qa H.size a n f u L x40 (by assumption)) (cwV 1 hts (gV mw_88 mw_89 mw_90 mw_53 mw_91) rfl rfl rfl (by decide +kernel) ⟨(Nat.le_of_ble_eq_true rfl), (Nat.le_of_ble_eq_true rfl)⟩) (kRecv (q := (R_Seg, T_Seg, 2)) (q0 := 1) (ci := 2) hK hP rfl rfl (kPre (wc := [(qs, .inr (2, [.ref qr, .int a])), (qr, .inr (0, [.ref qa, .int u])), (qa, .inl (k.1, n, .inl f))]) hE hK hP hD hS hA [1, 2, 3] rfl (by decide))) rfl rfl hl.1 rfl (lv_room (Nat.le_of_ble_eq_true rfl)) d_CWr_byteOut_48 ⟨(Nat.le_of_ble_eq_true rfl), (Nat.le_of_ble_eq_true rfl)⟩) hP hD hS hA [1, 2, 3] [0] rfl rfl (by decide) (by decide) (fun zz uu H locs hw44 hz45 hP hD hS => ?_)
        obtain ⟨f_42, rfl⟩ : ∃ y, y = zz := ⟨_, rfl⟩
        obtain ⟨L_41, rfl⟩ : ∃ y, y = uu := ⟨_, rfl⟩
        have hw44 : L_41 = sgc L a x40 := hw44
        have hz45 : row_ok n f_42 u L_41 := hz45
        have hP : va_P D vwCl [(h0, .inr (4, [.ref qs, .ref qc, .int x39, .int sz, .int rm])), (qs, .inr (2, [.ref qr, .int a])), (qr, .inr (0, [.ref qa, .int u])), (qa, .inl (k.1, n, .inl f_42))] H := hP
        have hD : va_D A [(h0, .inr (4, [.ref qs, .ref qc, .int x39, .int sz, .int rm])), (qs, .inr (2, [.ref qr, .int a])), (qr, .inr (0, [.ref qa, .int u])), (qa, .inl (k.1, n, .inl f_42))] := hD
        refine lv_aload_n hx hb d_CWr_byteOut_51 rfl (lv_at hl 1 rfl) ?_
        refine lv_iload_n hx hb d_CWr_byteOut_52 rfl (lv_at hl 0 rfl) ?_
        refine lv_sipush (v := 255) hx hb d_CWr_byteOut_53 (by decide) ?_
        refine lv_icmp_ne (tgt := 64) hx hb d_CWr_byteOut_56 (by decide) (fun c46 => ?_) (fun c46 => ?_)
        · refine lv_bipush (v := 8) hx hb d_CWr_byteOut_64 (by decide) ?_
          refine va_put (D := D) (ci := 4) (v := .int 8) (ty := .int) (C := R_CWr) (T := T_CWr) (N := 5) hx hb hts inw_CWr ty_CWr tyok_CWr nm_CWr hown hK hP hD hS 0 rfl rfl 4 (by decide) (hts (.fieldLink R_CWr 27 "LikelyBits$CodedWriter" "room" "I") mw_81) (fun _ h9 => h9) rfl (by decide +kernel) rfl rfl (Nat.le_of_ble_eq_true rfl) d_CWr_byteOut_66 (fun H locs hP hD hS => ?_)
          have hP : va_P D vwCl [(h0, .inr (4, [.ref qs, .ref qc, .int x39, .int sz, .int 8])), (qs, .inr (2, [.ref qr, .int a])), (qr, .inr (0, [.ref qa, .int u])), (qa, .inl (k.1, n, .inl f_42))] H := hP
          have hD : va_D A [(h0, .inr (4, [.ref qs, .ref qc, .int x39, .int sz, .int 8])), (qs, .inr (2, [.ref qr, .int a])), (qr, .inr (0, [.ref qa, .int u])), (qa, .inl (k.1, n, .inl f_42))] := hD
          refine lv_bipush (v := 27) hx hb d_CWr_byteOut_69 (by decide) ?_
          refine lv_aload_n hx hb d_CWr_byteOut_71 rfl (lv_at hl 1 rfl) ?_
          refine va_get (D := D) (ci := 4) (v := .int 8) (C := R_CWr) (T := T_CWr) (N := 5) hx hb hts inw_CWr hown hK hP 0 rfl rfl 4 (by decide) (hts (.fieldLink R_CWr 27 "LikelyBits$CodedWriter" "room" "I") mw_81) (fun _ h9 => h9) rfl d_CWr_byteOut_72 ?_
          refine lv_isub hx hb d_CWr_byteOut_75 ?_
          refine lv_topi (fun x47 ex47 => ?_)
          refine lv_istore_n (lv' := [(2, .int x47), (1, .int x40), (0, .ref h0)]) hx hb d_CWr_byteOut_76 rfl hl (by decide) rfl (fun ls hl => ?_)
          refine lv_aload_n hx hb d_CWr_byteOut_77 rfl (lv_at hl 2 rfl) ?_
          refine va_get (D := D) (ci := 4) (v := .ref qs) (C := R_CWr) (T := T_CWr) (N := 5) hx hb hts inw_CWr hown hK hP 0 rfl rfl 0 (by decide) (hts (.fieldLink R_CWr 9 "LikelyBits$CodedWriter" "segment" "LLikelyBits$Segment;") mw_76) (fun _ h9 => h9) rfl d_CWr_byteOut_78 ?_
          refine lv_aload_n hx hb d_CWr_byteOut_81 rfl (lv_at hl 2 rfl) ?_
          refine va_get (D := D) (ci := 4) (v := .int x39) (C := R_CWr) (T := T_CWr) (N := 5) hx hb hts inw_CWr hown hK hP 0 rfl rfl 2 (by decide) (hts (.fieldLink R_CWr 19 "LikelyBits$CodedWriter" "low" "I") mw_78) (fun _ h9 => h9) rfl d_CWr_byteOut_82 ?_
          refine lv_iload_n hx hb d_CWr_byteOut_85 rfl (lv_at hl 0 rfl) ?_
          refine lv_iushr (v := jushr x39 x47) hx hb d_CWr_byteOut_86 rfl ?_
          refine lv_sipush (v := 255) hx hb d_CWr_byteOut_87 (by decide) ?_
          refine lv_iand hx hb d_CWr_byteOut_90 ?_
          have hbn : (bo a lo n L).2.2.1 = apn n L_41 := (by subst ex47; obtain rfl := hw44; subst ex40; subst ex39; subst ex2; simp [bo, bo2, bo3, c3, c15, c27, c46])
          refine kcv (wc := [(qs, .inr (2, [.ref qr, .int a])), (qr, .inr (0, [.ref qa, .int u])), (qa, .inl (k.1, n, .inl f_42))]) (wr := [(h0, .inr (4, [.ref qs, .ref qc, .int x39, .int sz, .int 8]))]) (va_runV (As := [.int ((jushr x39 x47) &&& 255)]) (rest := []) ⟨hx, hb, hml, hown, hts⟩ (c_Seg_append l hl9 D k qs qr qa H.size a n f_42 u L_41 ((jushr x39 x47) &&& 255) (by assumption)) (cwV 1 hts (gV mw_83 mw_84 mw_85 mw_53 mw_86) rfl rfl rfl (by decide +kernel) ⟨(Nat.le_of_ble_eq_true rfl), (Nat.le_of_ble_eq_true rfl)⟩) (kRecv (q := (R_Seg, T_Seg, 2)) (q0 := 1) (ci := 2) hK hP rfl rfl (kPre (wc := [(qs, .inr (2, [.ref qr, .int a])), (qr, .inr (0, [.ref qa, .int u])), (qa, .inl (k.1, n, .inl f_42))]) hE hK hP hD hS hA [1, 2, 3] rfl (by decide))) rfl rfl hl.1 rfl (lv_room (Nat.le_of_ble_eq_true rfl)) d_CWr_byteOut_91 ⟨(by first | omega | (dsimp only; omega)), (by first | omega | (dsimp only; omega))⟩) hP hD hS hA [1, 2, 3] [0] rfl rfl (by decide) (by decide) (fun zz uu H locs hw54 hz55 hP hD hS => ?_)
          obtain ⟨q_50, f_51, u_52⟩ := zz
          obtain ⟨n_48, L_49⟩ := uu
          have hw54 : n_48 = apn n L_41 ∧ L_49 = app L_41 ((jushr x39 x47) &&& 255) := hw54
          have hz55 : row_ok n_48 f_51 u_52 L_49 := hz55
          have hP : va_P D vwCl [(h0, .inr (4, [.ref qs, .ref qc, .int x39, .int sz, .int 8])), (qs, .inr (2, [.ref qr, .int a])), (qr, .inr (0, [.ref q_50, .int u_52])), (q_50, .inl (k.1, n_48, .inl f_51))] H := hP
          have hD : va_D A [(h0, .inr (4, [.ref qs, .ref qc, .int x39, .int sz, .int 8])), (qs, .inr (2, [.ref qr, .int a])), (qr, .inr (0, [.ref q_50, .int u_52])), (q_50, .inl (k.1, n_48, .inl f_51))] := hD
          refine lv_aload_n hx hb d_CWr_byteOut_94 rfl (lv_at hl 2 rfl) ?_
          refine lv_dup hx hb d_CWr_byteOut_95 rfl ?_
          refine va_get (D := D) (ci := 4) (v := .int x39) (C := R_CWr) (T := T_CWr) (N := 5) hx hb hts inw_CWr hown hK hP 0 rfl rfl 2 (by decide) (hts (.fieldLink R_CWr 19 "LikelyBits$CodedWriter" "low" "I") mw_78) (fun _ h9 => h9) rfl d_CWr_byteOut_96 ?_
          refine lv_iconst (v := 1) hx hb d_CWr_byteOut_99 (by decide) ?_
          refine lv_iload_n hx hb d_CWr_byteOut_100 rfl (lv_at hl 0 rfl) ?_
          refine lv_ishl hx hb d_CWr_byteOut_101 ?_
          refine lv_iconst (v := 1) hx hb d_CWr_byteOut_102 (by decide) ?_
          refine lv_isub hx hb d_CWr_byteOut_103 ?_
          refine lv_iand hx hb d_CWr_byteOut_104 ?_
          refine lv_topi (fun x56 ex56 => ?_)
          refine va_put (D := D) (ci := 4) (v := .int x56) (ty := .int) (C := R_CWr) (T := T_CWr) (N := 5) hx hb hts inw_CWr ty_CWr tyok_CWr nm_CWr hown hK hP hD hS 0 rfl rfl 2 (by decide) (hts (.fieldLink R_CWr 19 "LikelyBits$CodedWriter" "low" "I") mw_78) (fun _ h9 => h9) rfl (by decide +kernel) rfl rfl (Nat.le_of_ble_eq_true rfl) d_CWr_byteOut_105 (fun H locs hP hD hS => ?_)
          have hP : va_P D vwCl [(h0, .inr (4, [.ref qs, .ref qc, .int x56, .int sz, .int 8])), (qs, .inr (2, [.ref qr, .int a])), (qr, .inr (0, [.ref q_50, .int u_52])), (q_50, .inl (k.1, n_48, .inl f_51))] H := hP
          have hD : va_D A [(h0, .inr (4, [.ref qs, .ref qc, .int x56, .int sz, .int 8])), (qs, .inr (2, [.ref qr, .int a])), (qr, .inr (0, [.ref q_50, .int u_52])), (q_50, .inl (k.1, n_48, .inl f_51))] := hD
          exact krv (wo := wo_CWr_byteOut k h0 qs qr qa qc lo sz rm a n f u L) hx hb hr hlk hP hD hS (x56, 8, n_48, L_49) (q_50, f_51, u_52) (by subst ex56; obtain ⟨rfl, rfl⟩ := hw54; subst ex47; obtain rfl := hw44; subst ex40; subst ex39; subst ex2; simp [po_CWr_byteOut, bo, bo2, bo3, c3, c15, c27, c46]) (by assumption) [0, 1, 2, 3] rfl (by decide) (by first | omega | (dsimp only; omega)) (by first | omega | (dsimp only; omega)) d_CWr_byteOut_108
        · refine lv_bipush (v := 7) hx hb d_CWr_byteOut_59 (by decide) ?_
          refine lv_goto (tgt := 66) hx hb d_CWr_byteOut_61 (by decide) ?_
          refine va_put (D := D) (ci := 4) (v := .int 7) (ty := .int) (C := R_CWr) (T := T_CWr) (N := 5) hx hb hts inw_CWr ty_CWr tyok_CWr nm_CWr hown hK hP hD hS 0 rfl rfl 4 (by decide) (hts (.fieldLink R_CWr 27 "LikelyBits$CodedWriter" "room" "I") mw_81) (fun _ h9 => h9) rfl (by decide +kernel) rfl rfl (Nat.le_of_ble_eq_true rfl) d_CWr_byteOut_66 (fun H locs hP hD hS => ?_)
          have hP : va_P D vwCl [(h0, .inr (4, [.ref qs, .ref qc, .int x39, .int sz, .int 7])), (qs, .inr (2, [.ref qr, .int a])), (qr, .inr (0, [.ref qa, .int u])), (qa, .inl (k.1, n, .inl f_42))] H := hP
          have hD : va_D A [(h0, .inr (4, [.ref qs, .ref qc, .int x39, .int sz, .int 7])), (qs, .inr (2, [.ref qr, .int a])), (qr, .inr (0, [.ref qa, .int u])), (qa, .inl (k.1, n, .inl f_42))] := hD
          refine lv_bipush (v := 27) hx hb d_CWr_byteOut_69 (by decide) ?_
          refine lv_aload_n hx hb d_CWr_byteOut_71 rfl (lv_at hl 1 rfl) ?_
          refine va_get (D := D) (ci := 4) (v := .int 7) (C := R_CWr) (T := T_CWr) (N := 5) hx hb hts inw_CWr hown hK hP 0 rfl rfl 4 (by decide) (hts (.fieldLink R_CWr 27 "LikelyBits$CodedWriter" "room" "I") mw_81) (fun _ h9 => h9) rfl d_CWr_byteOut_72 ?_
          refine lv_isub hx hb d_CWr_byteOut_75 ?_
          refine lv_topi (fun x57 ex57 => ?_)
          refine lv_istore_n (lv' := [(2, .int x57), (1, .int x40), (0, .ref h0)]) hx hb d_CWr_byteOut_76 rfl hl (by decide) rfl (fun ls hl => ?_)
          refine lv_aload_n hx hb d_CWr_byteOut_77 rfl (lv_at hl 2 rfl) ?_
          refine va_get (D := D) (ci := 4) (v := .ref qs) (C := R_CWr) (T := T_CWr) (N := 5) hx hb hts inw_CWr hown hK hP 0 rfl rfl 0 (by decide) (hts (.fieldLink R_CWr 9 "LikelyBits$CodedWriter" "segment" "LLikelyBits$Segment;") mw_76) (fun _ h9 => h9) rfl d_CWr_byteOut_78 ?_
          refine lv_aload_n hx hb d_CWr_byteOut_81 rfl (lv_at hl 2 rfl) ?_
          refine va_get (D := D) (ci := 4) (v := .int x39) (C := R_CWr) (T := T_CWr) (N := 5) hx hb hts inw_CWr hown hK hP 0 rfl rfl 2 (by decide) (hts (.fieldLink R_CWr 19 "LikelyBits$CodedWriter" "low" "I") mw_78) (fun _ h9 => h9) rfl d_CWr_byteOut_82 ?_
          refine lv_iload_n hx hb d_CWr_byteOut_85 rfl (lv_at hl 0 rfl) ?_
          refine lv_iushr (v := jushr x39 x57) hx hb d_CWr_byteOut_86 rfl ?_
          refine lv_sipush (v := 255) hx hb d_CWr_byteOut_87 (by decide) ?_
          refine lv_iand hx hb d_CWr_byteOut_90 ?_
          have hbn : (bo a lo n L).2.2.1 = apn n L_41 := (by subst ex57; obtain rfl := hw44; subst ex40; subst ex39; subst ex2; simp [bo, bo2, bo3, c3, c15, c27, c46])
          refine kcv (wc := [(qs, .inr (2, [.ref qr, .int a])), (qr, .inr (0, [.ref qa, .int u])), (qa, .inl (k.1, n, .inl f_42))]) (wr := [(h0, .inr (4, [.ref qs, .ref qc, .int x39, .int sz, .int 7]))]) (va_runV (As := [.int ((jushr x39 x57) &&& 255)]) (rest := []) ⟨hx, hb, hml, hown, hts⟩ (c_Seg_append l hl9 D k qs qr qa H.size a n f_42 u L_41 ((jushr x39 x57) &&& 255) (by assumption)) (cwV 1 hts (gV mw_83 mw_84 mw_85 mw_53 mw_86) rfl rfl rfl (by decide +kernel) ⟨(Nat.le_of_ble_eq_true rfl), (Nat.le_of_ble_eq_true rfl)⟩) (kRecv (q := (R_Seg, T_Seg, 2)) (q0 := 1) (ci := 2) hK hP rfl rfl (kPre (wc := [(qs, .inr (2, [.ref qr, .int a])), (qr, .inr (0, [.ref qa, .int u])), (qa, .inl (k.1, n, .inl f_42))]) hE hK hP hD hS hA [1, 2, 3] rfl (by decide))) rfl rfl hl.1 rfl (lv_room (Nat.le_of_ble_eq_true rfl)) d_CWr_byteOut_91 ⟨(by first | omega | (dsimp only; omega)), (by first | omega | (dsimp only; omega))⟩) hP hD hS hA [1, 2, 3] [0] rfl rfl (by decide) (by decide) (fun zz uu H locs hw64 hz65 hP hD hS => ?_)
          obtain ⟨q_60, f_61, u_62⟩ := zz
          obtain ⟨n_58, L_59⟩ := uu
          have hw64 : n_58 = apn n L_41 ∧ L_59 = app L_41 ((jushr x39 x57) &&& 255) := hw64
          have hz65 : row_ok n_58 f_61 u_62 L_59 := hz65
          have hP : va_P D vwCl [(h0, .inr (4, [.ref qs, .ref qc, .int x39, .int sz, .int 7])), (qs, .inr (2, [.ref qr, .int a])), (qr, .inr (0, [.ref q_60, .int u_62])), (q_60, .inl (k.1, n_58, .inl f_61))] H := hP
          have hD : va_D A [(h0, .inr (4, [.ref qs, .ref qc, .int x39, .int sz, .int 7])), (qs, .inr (2, [.ref qr, .int a])), (qr, .inr (0, [.ref q_60, .int u_62])), (q_60, .inl (k.1, n_58, .inl f_61))] := hD
          refine lv_aload_n hx hb d_CWr_byteOut_94 rfl (lv_at hl 2 rfl) ?_
          refine lv_dup hx hb d_CWr_byteOut_95 rfl ?_
          refine va_get (D := D) (ci := 4) (v := .int x39) (C := R_CWr) (T := T_CWr) (N := 5) hx hb hts inw_CWr hown hK hP 0 rfl rfl 2 (by decide) (hts (.fieldLink R_CWr 19 "LikelyBits$CodedWriter" "low" "I") mw_78) (fun _ h9 => h9) rfl d_CWr_byteOut_96 ?_
          refine lv_iconst (v := 1) hx hb d_CWr_byteOut_99 (by decide) ?_
          refine lv_iload_n hx hb d_CWr_byteOut_100 rfl (lv_at hl 0 rfl) ?_
          refine lv_ishl hx hb d_CWr_byteOut_101 ?_
          refine lv_iconst (v := 1) hx hb d_CWr_byteOut_102 (by decide) ?_
          refine lv_isub hx hb d_CWr_byteOut_103 ?_
          refine lv_iand hx hb d_CWr_byteOut_104 ?_
          refine lv_topi (fun x66 ex66 => ?_)
          refine va_put (D := D) (ci := 4) (v := .int x66) (ty := .int) (C := R_CWr) (T := T_CWr) (N := 5) hx hb hts inw_CWr ty_CWr tyok_CWr nm_CWr hown hK hP hD hS 0 rfl rfl 2 (by decide) (hts (.fieldLink R_CWr 19 "LikelyBits$CodedWriter" "low" "I") mw_78) (fun _ h9 => h9) rfl (by decide +kernel) rfl rfl (Nat.le_of_ble_eq_true rfl) d_CWr_byteOut_105 (fun H locs hP hD hS => ?_)
          have hP : va_P D vwCl [(h0, .inr (4, [.ref qs, .ref qc, .int x66, .int sz, .int 7])), (qs, .inr (2, [.ref qr, .int a])), (qr, .inr (0, [.ref q_60, .int u_62])), (q_60, .inl (k.1, n_58, .inl f_61))] H := hP
          have hD : va_D A [(h0, .inr (4, [.ref qs, .ref qc, .int x66, .int sz, .int 7])), (qs, .inr (2, [.ref qr, .int a])), (qr, .inr (0, [.ref q_60, .int u_62])), (q_60, .inl (k.1, n_58, .inl f_61))] := hD
          exact krv (wo := wo_CWr_byteOut k h0 qs qr qa qc lo sz rm a n f u L) hx hb hr hlk hP hD hS (x66, 7, n_58, L_59) (q_60, f_61, u_62) (by subst ex66; obtain ⟨rfl, rfl⟩ := hw64; subst ex57; obtain rfl := hw44; subst ex40; subst ex39; subst ex2; simp [po_CWr_byteOut, bo, bo2, bo3, c3, c15, c27, c46]) (by assumption) [0, 1, 2, 3] rfl (by decide) (by first | omega | (dsimp only; omega)) (by first | omega | (dsimp only; omega)) d_CWr_byteOut_108

def wo_CWr_fill (k : gK) (h0 qs qr qa : Nat) (qc : Nat) (lo : Int32) (sz : Int32) (rm : Int32) (a : Int32) (n : Nat) (f : Nat → Int32) (u : Int32) (L : List Int32) (zz : Nat × (Nat → Int32) × Int32) (uu : Int32 × Int32 × Nat × List Int32) : va_W := match zz, uu with
  | (q2, f2, u2), (lo2, rm2, n2, L2) => [(h0, .inr (4, [.ref qs, .ref qc, .int lo2, .int sz, .int rm2])), (qs, .inr (2, [.ref qr, .int a])), (qr, .inr (0, [.ref q2, .int u2])), (q2, .inl (k.1, n2, .inl f2))]
def ex_CWr_fill (k : gK) (h0 qs qr qa : Nat) (qc : Nat) (lo : Int32) (sz : Int32) (rm : Int32) (a : Int32) (n : Nat) (f : Nat → Int32) (u : Int32) (L : List Int32) (zz : Nat × (Nat → Int32) × Int32) (uu : Int32 × Int32 × Nat × List Int32) : Prop := match zz, uu with
  | (q2, f2, u2), (lo2, rm2, n2, L2) => row_ok n2 f2 u2 L2
def po_CWr_fill (k : gK) (h0 qs qr qa : Nat) (qc : Nat) (lo : Int32) (sz : Int32) (rm : Int32) (a : Int32) (n : Nat) (f : Nat → Int32) (u : Int32) (L : List Int32) (uu : Int32 × Int32 × Nat × List Int32) : Prop := match uu with
  | (lo2, rm2, n2, L2) => lo2 = (fb a lo rm n L).1 ∧ rm2 = (fb a lo rm n L).2.1 ∧ n2 = (fb a lo rm n L).2.2.1 ∧ L2 = (fb a lo rm n L).2.2.2
def qc_CWr_fill (D : va_G) (k : gK) (h0 qs qr qa : Nat) (qc : Nat) (lo : Int32) (sz : Int32) (rm : Int32) (a : Int32) (n : Nat) (f : Nat → Int32) (u : Int32) (L : List Int32) (A : Nat → Prop) : Array Value → State → Outcome → State → Prop := va_Qv (po_CWr_fill k h0 qs qr qa qc lo sz rm a n f u L) (fun uu t => ∃ zz, ex_CWr_fill k h0 qs qr qa qc lo sz rm a n f u L zz uu ∧ GP D A (wo_CWr_fill k h0 qs qr qa qc lo sz rm a n f u L zz uu) t) A
set_option maxHeartbeats 1000000 in
set_option maxRecDepth 100000 in
theorem c_CWr_fill (l : Launch) (hl9 : l.stackTraces = false) (D : va_G) (k : gK) (h0 qs qr qa : Nat) (zsz : Nat) (qc : Nat) (lo : Int32) (sz : Int32) (rm : Int32) (a : Int32) (n : Nat) (f : Nat → Int32) (u : Int32) (L : List Int32) (hR : row_ok n f u L) : Met l y_CWr_fillByteOut (.code y_CWr_fillByteOut b_CWr_fillByteOut 1 none :: AW) ({ frames := 5, cells := (fb a lo rm n L).2.2.1 - n, slots := 2 * ((fb a lo rm n L).2.2.1 - n), locals := 146 }) (va_Pc [.ref h0] (GG D k [(h0, .inr (4, [.ref qs, .ref qc, .int lo, .int sz, .int rm])), (qs, .inr (2, [.ref qr, .int a])), (qr, .inr (0, [.ref qa, .int u])), (qa, .inl (k.1, n, .inl f))] zsz)) (qc_CWr_fill D k h0 qs qr qa qc lo sz rm a n f u L (va_A [(h0, .inr (4, [.ref qs, .ref qc, .int lo, .int sz, .int rm])), (qs, .inr (2, [.ref qr, .int a])), (qr, .inr (0, [.ref qa, .int u])), (qa, .inl (k.1, n, .inl f))] zsz)) ((fb a lo rm n L).2.2.1 - n) (2 * ((fb a lo rm n L).2.2.1 - n)) (va_A [(h0, .inr (4, [.ref qs, .ref qc, .int lo, .int sz, .int rm])), (qs, .inr (2, [.ref qr, .int a])), (qr, .inr (0, [.ref qa, .int u])), (qa, .inl (k.1, n, .inl f))] zsz) := by
  refine kMet (ws := [(h0, .inr (4, [.ref qs, .ref qc, .int lo, .int sz, .int rm])), (qs, .inr (2, [.ref qr, .int a])), (qr, .inr (0, [.ref qa, .int u])), (qa, .inl (k.1, n, .inl f))]) (Qc := qc_CWr_fill D k h0 qs qr qa qc lo sz rm a n f u L) (by decide) (Nat.le_of_ble_eq_true rfl) (fun p e s m below meth c ls A H Cc hP hD hA hS hl => ?_)
  obtain ⟨hx, hb, hml, hr, hlk, hown, hts, hK, hE, hin⟩ := Cc
  have hl : lv_has ls 1 [(0, .ref h0)] := hl
  refine lv_aload_n hx hb d_CWr_fillByteOut_0 rfl (lv_at hl 0 rfl) ?_
  refine lv_dup hx hb d_CWr_fillByteOut_1 rfl ?_
  refine va_get (D := D) (ci := 4) (v := .int lo) (C := R_CWr) (T := T_CWr) (N := 5) hx hb hts inw_CWr hown hK hP 0 rfl rfl 2 (by decide) (hts (.fieldLink R_CWr 19 "LikelyBits$CodedWriter" "low" "I") mw_78) (fun _ h9 => h9) rfl d_CWr_fillByteOut_2 ?_
  refine lv_aload_n hx hb d_CWr_fillByteOut_5 rfl (lv_at hl 0 rfl) ?_
  refine va_get (D := D) (ci := 4) (v := .int rm) (C := R_CWr) (T := T_CWr) (N := 5) hx hb hts inw_CWr hown hK hP 0 rfl rfl 4 (by decide) (hts (.fieldLink R_CWr 27 "LikelyBits$CodedWriter" "room" "I") mw_81) (fun _ h9 => h9) rfl d_CWr_fillByteOut_6 ?_
  refine lv_ishl hx hb d_CWr_fillByteOut_9 ?_
  refine lv_topi (fun x1 ex1 => ?_)
  refine va_put (D := D) (ci := 4) (v := .int x1) (ty := .int) (C := R_CWr) (T := T_CWr) (N := 5) hx hb hts inw_CWr ty_CWr tyok_CWr nm_CWr hown hK hP hD hS 0 rfl rfl 2 (by decide) (hts (.fieldLink R_CWr 19 "LikelyBits$CodedWriter" "low" "I") mw_78) (fun _ h9 => h9) rfl (by decide +kernel) rfl rfl (Nat.le_of_ble_eq_true rfl) d_CWr_fillByteOut_10 (fun H locs hP hD hS => ?_)
  have hP : va_P D vwCl [(h0, .inr (4, [.ref qs, .ref qc, .int x1, .int sz, .int rm])), (qs, .inr (2, [.ref qr, .int a])), (qr, .inr (0, [.ref qa, .int u])), (qa, .inl (k.1, n, .inl f))] H := hP
  have hD : va_D A [(h0, .inr (4, [.ref qs, .ref qc, .int x1, .int sz, .int rm])), (qs, .inr (2, [.ref qr, .int a])), (qr, .inr (0, [.ref qa, .int u])), (qa, .inl (k.1, n, .inl f))] := hD
  refine lv_aload_n hx hb d_CWr_fillByteOut_13 rfl (lv_at hl 0 rfl) ?_
  have hbn : (fb a lo rm n L).2.2.1 = (bo a x1 n L).2.2.1 := by rw [ex1]; rfl
  refine kcv (wc := [(h0, .inr (4, [.ref qs, .ref qc, .int x1, .int sz, .int rm])), (qs, .inr (2, [.ref qr, .int a])), (qr, .inr (0, [.ref qa, .int u])), (qa, .inl (k.1, n, .inl f))]) (wr := []) (va_runV (As := []) (rest := []) ⟨hx, hb, hml, hown, hts⟩ (c_CWr_byteOut l hl9 D k h0 qs qr qa H.size qc x1 sz rm a n f u L (by assumption)) (cwV 0 hts (gV mw_92 mw_93 mw_94 mw_95 mw_96) rfl rfl rfl (by decide +kernel) ⟨(Nat.le_of_ble_eq_true rfl), (Nat.le_of_ble_eq_true rfl)⟩) (kRecv (q := (R_CWr, T_CWr, 5)) (q0 := 0) (ci := 4) hK hP rfl rfl (kPre (wc := [(h0, .inr (4, [.ref qs, .ref qc, .int x1, .int sz, .int rm])), (qs, .inr (2, [.ref qr, .int a])), (qr, .inr (0, [.ref qa, .int u])), (qa, .inl (k.1, n, .inl f))]) hE hK hP hD hS hA [0, 1, 2, 3] rfl (by decide))) rfl rfl hl.1 rfl (lv_room (Nat.le_of_ble_eq_true rfl)) d_CWr_fillByteOut_14 ⟨(by first | omega | (dsimp only; omega)), (by first | omega | (dsimp only; omega))⟩) hP hD hS hA [0, 1, 2, 3] [] rfl rfl (by decide) (by decide) (fun zz uu H locs hw10 hz11 hP hD hS => ?_)
  obtain ⟨q_6, f_7, u_8⟩ := zz
  obtain ⟨lo_2, rm_3, n_4, L_5⟩ := uu
  have hw10 : lo_2 = (bo a x1 n L).1 ∧ rm_3 = (bo a x1 n L).2.1 ∧ n_4 = (bo a x1 n L).2.2.1 ∧ L_5 = (bo a x1 n L).2.2.2 := hw10
  have hz11 : row_ok n_4 f_7 u_8 L_5 := hz11
  have hP : va_P D vwCl [(h0, .inr (4, [.ref qs, .ref qc, .int lo_2, .int sz, .int rm_3])), (qs, .inr (2, [.ref qr, .int a])), (qr, .inr (0, [.ref q_6, .int u_8])), (q_6, .inl (k.1, n_4, .inl f_7))] H := hP
  have hD : va_D A [(h0, .inr (4, [.ref qs, .ref qc, .int lo_2, .int sz, .int rm_3])), (qs, .inr (2, [.ref qr, .int a])), (qr, .inr (0, [.ref q_6, .int u_8])), (q_6, .inl (k.1, n_4, .inl f_7))] := hD
  exact krv (wo := wo_CWr_fill k h0 qs qr qa qc lo sz rm a n f u L) hx hb hr hlk hP hD hS (lo_2, rm_3, n_4, L_5) (q_6, f_7, u_8) (by obtain ⟨rfl, rfl, rfl, rfl⟩ := hw10; subst ex1; simp [po_CWr_fill, fb]) (by assumption) [0, 1, 2, 3] rfl (by decide) (by first | omega | (dsimp only; omega)) (by first | omega | (dsimp only; omega)) d_CWr_fillByteOut_17

def wo_CWr_addLikely (k : gK) (h0 qc qf qg : Nat) (qs : Nat) (lo : Int32) (sz : Int32) (rm : Int32) (sf : Nat → Int32) (lf : Nat → Int32) (x : Int32) (pt : Int32) (zz : Unit) (uu : Int32 × Int32 × (Nat → Int32) × (Nat → Int32)) : va_W := match zz, uu with
  | _, (lo2, sz2, sf2, lf2) => [(h0, .inr (4, [.ref qs, .ref qc, .int lo2, .int sz2, .int rm])), (qc, .inr (1, [.ref qf, .ref qg])), (qf, .inl (k.1, 19, .inl sf2)), (qg, .inl (k.1, 19, .inl lf2))]
def ex_CWr_addLikely (k : gK) (h0 qc qf qg : Nat) (qs : Nat) (lo : Int32) (sz : Int32) (rm : Int32) (sf : Nat → Int32) (lf : Nat → Int32) (x : Int32) (pt : Int32) (zz : Unit) (uu : Int32 × Int32 × (Nat → Int32) × (Nat → Int32)) : Prop := match zz, uu with
  | _, (lo2, sz2, sf2, lf2) => True
def po_CWr_addLikely (k : gK) (h0 qc qf qg : Nat) (qs : Nat) (lo : Int32) (sz : Int32) (rm : Int32) (sf : Nat → Int32) (lf : Nat → Int32) (x : Int32) (pt : Int32) (uu : Int32 × Int32 × (Nat → Int32) × (Nat → Int32)) : Prop := match uu with
  | (lo2, sz2, sf2, lf2) => lo2 = (aLk lo sz sf lf x pt).1 ∧ sz2 = (aLk lo sz sf lf x pt).2.1 ∧ sf2 = (aLk lo sz sf lf x pt).2.2.1 ∧ lf2 = (aLk lo sz sf lf x pt).2.2.2
def qc_CWr_addLikely (D : va_G) (k : gK) (h0 qc qf qg : Nat) (qs : Nat) (lo : Int32) (sz : Int32) (rm : Int32) (sf : Nat → Int32) (lf : Nat → Int32) (x : Int32) (pt : Int32) (A : Nat → Prop) : Array Value → State → Outcome → State → Prop := va_Qv (po_CWr_addLikely k h0 qc qf qg qs lo sz rm sf lf x pt) (fun uu t => ∃ zz, ex_CWr_addLikely k h0 qc qf qg qs lo sz rm sf lf x pt zz uu ∧ GP D A (wo_CWr_addLikely k h0 qc qf qg qs lo sz rm sf lf x pt zz uu) t) A
set_option maxHeartbeats 1000000 in
set_option maxRecDepth 100000 in
theorem c_CWr_addLikely (l : Launch) (hl9 : l.stackTraces = false) (D : va_G) (k : gK) (h0 qc qf qg : Nat) (zsz : Nat) (qs : Nat) (lo : Int32) (sz : Int32) (rm : Int32) (sf : Nat → Int32) (lf : Nat → Int32) (x : Int32) (pt : Int32) : Met l y_CWr_addLikely (.code y_CWr_addLikely b_CWr_addLikely 3 none :: AW) ({ frames := 3, cells := 0, slots := 0, locals := 63 }) (va_Pc [.ref h0, .int x, .int pt] (GG D k [(h0, .inr (4, [.ref qs, .ref qc, .int lo, .int sz, .int rm])), (qc, .inr (1, [.ref qf, .ref qg])), (qf, .inl (k.1, 19, .inl sf)), (qg, .inl (k.1, 19, .inl lf))] zsz)) (qc_CWr_addLikely D k h0 qc qf qg qs lo sz rm sf lf x pt (va_A [(h0, .inr (4, [.ref qs, .ref qc, .int lo, .int sz, .int rm])), (qc, .inr (1, [.ref qf, .ref qg])), (qf, .inl (k.1, 19, .inl sf)), (qg, .inl (k.1, 19, .inl lf))] zsz)) 0 0 (va_A [(h0, .inr (4, [.ref qs, .ref qc, .int lo, .int sz, .int rm])), (qc, .inr (1, [.ref qf, .ref qg])), (qf, .inl (k.1, 19, .inl sf)), (qg, .inl (k.1, 19, .inl lf))] zsz) := by
  refine kMet (ws := [(h0, .inr (4, [.ref qs, .ref qc, .int lo, .int sz, .int rm])), (qc, .inr (1, [.ref qf, .ref qg])), (qf, .inl (k.1, 19, .inl sf)), (qg, .inl (k.1, 19, .inl lf))]) (Qc := qc_CWr_addLikely D k h0 qc qf qg qs lo sz rm sf lf x pt) (by decide) (Nat.le_of_ble_eq_true rfl) (fun p e s m below meth c ls A H Cc hP hD hA hS hl => ?_)
  obtain ⟨hx, hb, hml, hr, hlk, hown, hts, hK, hE, hin⟩ := Cc
  have hl : lv_has ls 3 [(0, .ref h0), (1, .int x), (2, .int pt)] := hl
  refine lv_aload_n hx hb d_CWr_addLikely_0 rfl (lv_at hl 0 rfl) ?_
  refine va_get (D := D) (ci := 4) (v := .int sz) (C := R_CWr) (T := T_CWr) (N := 5) hx hb hts inw_CWr hown hK hP 0 rfl rfl 3 (by decide) (hts (.fieldLink R_CWr 24 "LikelyBits$CodedWriter" "size" "I") mw_80) (fun _ h9 => h9) rfl d_CWr_addLikely_1 ?_
  refine lv_ldc (v := 32768) hx hb hown (hts (.constant R_CWr 23 32768) mw_79) d_CWr_addLikely_4 ?_
  refine lv_icmp_lt (tgt := 20) hx hb d_CWr_addLikely_6 (by decide) (fun c1 => ?_) (fun c1 => ?_)
  · refine lv_aload_n hx hb d_CWr_addLikely_20 rfl (lv_at hl 0 rfl) ?_
    refine va_get (D := D) (ci := 4) (v := .int sz) (C := R_CWr) (T := T_CWr) (N := 5) hx hb hts inw_CWr hown hK hP 0 rfl rfl 3 (by decide) (hts (.fieldLink R_CWr 24 "LikelyBits$CodedWriter" "size" "I") mw_80) (fun _ h9 => h9) rfl d_CWr_addLikely_21 ?_
    refine lv_iload_n hx hb d_CWr_addLikely_24 rfl (lv_at hl 2 rfl) ?_
    refine lv_icmp_ge (tgt := 36) hx hb d_CWr_addLikely_25 (by decide) (fun c2 => ?_) (fun c2 => ?_)
    · refine lv_aload_n hx hb d_CWr_addLikely_36 rfl (lv_at hl 0 rfl) ?_
      refine lv_dup hx hb d_CWr_addLikely_37 rfl ?_
      refine va_get (D := D) (ci := 4) (v := .int lo) (C := R_CWr) (T := T_CWr) (N := 5) hx hb hts inw_CWr hown hK hP 0 rfl rfl 2 (by decide) (hts (.fieldLink R_CWr 19 "LikelyBits$CodedWriter" "low" "I") mw_78) (fun _ h9 => h9) rfl d_CWr_addLikely_38 ?_
      refine lv_iload_n hx hb d_CWr_addLikely_41 rfl (lv_at hl 2 rfl) ?_
      refine lv_iadd hx hb d_CWr_addLikely_42 ?_
      refine lv_topi (fun x3 ex3 => ?_)
      refine va_put (D := D) (ci := 4) (v := .int x3) (ty := .int) (C := R_CWr) (T := T_CWr) (N := 5) hx hb hts inw_CWr ty_CWr tyok_CWr nm_CWr hown hK hP hD hS 0 rfl rfl 2 (by decide) (hts (.fieldLink R_CWr 19 "LikelyBits$CodedWriter" "low" "I") mw_78) (fun _ h9 => h9) rfl (by decide +kernel) rfl rfl (Nat.le_of_ble_eq_true rfl) d_CWr_addLikely_43 (fun H locs hP hD hS => ?_)
      have hP : va_P D vwCl [(h0, .inr (4, [.ref qs, .ref qc, .int x3, .int sz, .int rm])), (qc, .inr (1, [.ref qf, .ref qg])), (qf, .inl (k.1, 19, .inl sf)), (qg, .inl (k.1, 19, .inl lf))] H := hP
      have hD : va_D A [(h0, .inr (4, [.ref qs, .ref qc, .int x3, .int sz, .int rm])), (qc, .inr (1, [.ref qf, .ref qg])), (qf, .inl (k.1, 19, .inl sf)), (qg, .inl (k.1, 19, .inl lf))] := hD
      refine lv_aload_n hx hb d_CWr_addLikely_46 rfl (lv_at hl 0 rfl) ?_
      refine va_get (D := D) (ci := 4) (v := .ref qc) (C := R_CWr) (T := T_CWr) (N := 5) hx hb hts inw_CWr hown hK hP 0 rfl rfl 1 (by decide) (hts (.fieldLink R_CWr 15 "LikelyBits$CodedWriter" "contexts" "LLikelyBits$Contexts;") mw_77) (fun _ h9 => h9) rfl d_CWr_addLikely_47 ?_
      refine lv_iload_n hx hb d_CWr_addLikely_50 rfl (lv_at hl 1 rfl) ?_
      refine kcv (wc := [(qc, .inr (1, [.ref qf, .ref qg])), (qf, .inl (k.1, 19, .inl sf)), (qg, .inl (k.1, 19, .inl lf))]) (wr := [(h0, .inr (4, [.ref qs, .ref qc, .int x3, .int sz, .int rm]))]) (va_runV (As := [.int x]) (rest := []) ⟨hx, hb, hml, hown, hts⟩ (c_Cxt_afterLikely l hl9 D k qc qf qg H.size sf lf x ) (cwV 1 hts (gV mw_97 mw_98 mw_99 mw_23 mw_100) rfl rfl rfl (by decide +kernel) ⟨(Nat.le_of_ble_eq_true rfl), (Nat.le_of_ble_eq_true rfl)⟩) (kRecv (q := (R_Cxt, T_Cxt, 2)) (q0 := 1) (ci := 1) hK hP rfl rfl (kPre (wc := [(qc, .inr (1, [.ref qf, .ref qg])), (qf, .inl (k.1, 19, .inl sf)), (qg, .inl (k.1, 19, .inl lf))]) hE hK hP hD hS hA [1, 2, 3] rfl (by decide))) rfl rfl hl.1 rfl (lv_room (Nat.le_of_ble_eq_true rfl)) d_CWr_addLikely_51 ⟨(Nat.le_of_ble_eq_true rfl), (Nat.le_of_ble_eq_true rfl)⟩) hP hD hS hA [1, 2, 3] [0] rfl rfl (by decide) (by decide) (fun zz uu H locs hw7 hz8 hP hD hS => ?_)
      obtain ⟨sf_4, lf_5⟩ := uu
      have hw7 : sf_4 = (cLk sf lf x).1 ∧ lf_5 = (cLk sf lf x).2 := hw7
      have hP : va_P D vwCl [(h0, .inr (4, [.ref qs, .ref qc, .int x3, .int sz, .int rm])), (qc, .inr (1, [.ref qf, .ref qg])), (qf, .inl (k.1, 19, .inl sf_4)), (qg, .inl (k.1, 19, .inl lf_5))] H := hP
      have hD : va_D A [(h0, .inr (4, [.ref qs, .ref qc, .int x3, .int sz, .int rm])), (qc, .inr (1, [.ref qf, .ref qg])), (qf, .inl (k.1, 19, .inl sf_4)), (qg, .inl (k.1, 19, .inl lf_5))] := hD
      exact krv (wo := wo_CWr_addLikely k h0 qc qf qg qs lo sz rm sf lf x pt) hx hb hr hlk hP hD hS (x3, sz, sf_4, lf_5) () (by obtain ⟨rfl, rfl⟩ := hw7; subst ex3; simp [po_CWr_addLikely, aLk, c1, c2]) trivial [0, 1, 2, 3] rfl (by decide) (Nat.le_of_ble_eq_true rfl) (Nat.le_of_ble_eq_true rfl) d_CWr_addLikely_54
    · refine lv_aload_n hx hb d_CWr_addLikely_28 rfl (lv_at hl 0 rfl) ?_
      refine lv_iload_n hx hb d_CWr_addLikely_29 rfl (lv_at hl 2 rfl) ?_
      refine va_put (D := D) (ci := 4) (v := .int pt) (ty := .int) (C := R_CWr) (T := T_CWr) (N := 5) hx hb hts inw_CWr ty_CWr tyok_CWr nm_CWr hown hK hP hD hS 0 rfl rfl 3 (by decide) (hts (.fieldLink R_CWr 24 "LikelyBits$CodedWriter" "size" "I") mw_80) (fun _ h9 => h9) rfl (by decide +kernel) rfl rfl (Nat.le_of_ble_eq_true rfl) d_CWr_addLikely_30 (fun H locs hP hD hS => ?_)
      have hP : va_P D vwCl [(h0, .inr (4, [.ref qs, .ref qc, .int lo, .int pt, .int rm])), (qc, .inr (1, [.ref qf, .ref qg])), (qf, .inl (k.1, 19, .inl sf)), (qg, .inl (k.1, 19, .inl lf))] H := hP
      have hD : va_D A [(h0, .inr (4, [.ref qs, .ref qc, .int lo, .int pt, .int rm])), (qc, .inr (1, [.ref qf, .ref qg])), (qf, .inl (k.1, 19, .inl sf)), (qg, .inl (k.1, 19, .inl lf))] := hD
      refine lv_goto (tgt := 46) hx hb d_CWr_addLikely_33 (by decide) ?_
      refine lv_aload_n hx hb d_CWr_addLikely_46 rfl (lv_at hl 0 rfl) ?_
      refine va_get (D := D) (ci := 4) (v := .ref qc) (C := R_CWr) (T := T_CWr) (N := 5) hx hb hts inw_CWr hown hK hP 0 rfl rfl 1 (by decide) (hts (.fieldLink R_CWr 15 "LikelyBits$CodedWriter" "contexts" "LLikelyBits$Contexts;") mw_77) (fun _ h9 => h9) rfl d_CWr_addLikely_47 ?_
      refine lv_iload_n hx hb d_CWr_addLikely_50 rfl (lv_at hl 1 rfl) ?_
      refine kcv (wc := [(qc, .inr (1, [.ref qf, .ref qg])), (qf, .inl (k.1, 19, .inl sf)), (qg, .inl (k.1, 19, .inl lf))]) (wr := [(h0, .inr (4, [.ref qs, .ref qc, .int lo, .int pt, .int rm]))]) (va_runV (As := [.int x]) (rest := []) ⟨hx, hb, hml, hown, hts⟩ (c_Cxt_afterLikely l hl9 D k qc qf qg H.size sf lf x ) (cwV 1 hts (gV mw_97 mw_98 mw_99 mw_23 mw_100) rfl rfl rfl (by decide +kernel) ⟨(Nat.le_of_ble_eq_true rfl), (Nat.le_of_ble_eq_true rfl)⟩) (kRecv (q := (R_Cxt, T_Cxt, 2)) (q0 := 1) (ci := 1) hK hP rfl rfl (kPre (wc := [(qc, .inr (1, [.ref qf, .ref qg])), (qf, .inl (k.1, 19, .inl sf)), (qg, .inl (k.1, 19, .inl lf))]) hE hK hP hD hS hA [1, 2, 3] rfl (by decide))) rfl rfl hl.1 rfl (lv_room (Nat.le_of_ble_eq_true rfl)) d_CWr_addLikely_51 ⟨(Nat.le_of_ble_eq_true rfl), (Nat.le_of_ble_eq_true rfl)⟩) hP hD hS hA [1, 2, 3] [0] rfl rfl (by decide) (by decide) (fun zz uu H locs hw12 hz13 hP hD hS => ?_)
      obtain ⟨sf_9, lf_10⟩ := uu
      have hw12 : sf_9 = (cLk sf lf x).1 ∧ lf_10 = (cLk sf lf x).2 := hw12
      have hP : va_P D vwCl [(h0, .inr (4, [.ref qs, .ref qc, .int lo, .int pt, .int rm])), (qc, .inr (1, [.ref qf, .ref qg])), (qf, .inl (k.1, 19, .inl sf_9)), (qg, .inl (k.1, 19, .inl lf_10))] H := hP
      have hD : va_D A [(h0, .inr (4, [.ref qs, .ref qc, .int lo, .int pt, .int rm])), (qc, .inr (1, [.ref qf, .ref qg])), (qf, .inl (k.1, 19, .inl sf_9)), (qg, .inl (k.1, 19, .inl lf_10))] := hD
      exact krv (wo := wo_CWr_addLikely k h0 qc qf qg qs lo sz rm sf lf x pt) hx hb hr hlk hP hD hS (lo, pt, sf_9, lf_10) () (by obtain ⟨rfl, rfl⟩ := hw12; simp [po_CWr_addLikely, aLk, c1, c2]) trivial [0, 1, 2, 3] rfl (by decide) (Nat.le_of_ble_eq_true rfl) (Nat.le_of_ble_eq_true rfl) d_CWr_addLikely_54
  · refine lv_aload_n hx hb d_CWr_addLikely_9 rfl (lv_at hl 0 rfl) ?_
    refine lv_dup hx hb d_CWr_addLikely_10 rfl ?_
    refine va_get (D := D) (ci := 4) (v := .int lo) (C := R_CWr) (T := T_CWr) (N := 5) hx hb hts inw_CWr hown hK hP 0 rfl rfl 2 (by decide) (hts (.fieldLink R_CWr 19 "LikelyBits$CodedWriter" "low" "I") mw_78) (fun _ h9 => h9) rfl d_CWr_addLikely_11 ?_
    refine lv_iload_n hx hb d_CWr_addLikely_14 rfl (lv_at hl 2 rfl) ?_
    refine lv_iadd hx hb d_CWr_addLikely_15 ?_
    refine lv_topi (fun x14 ex14 => ?_)
    refine va_put (D := D) (ci := 4) (v := .int x14) (ty := .int) (C := R_CWr) (T := T_CWr) (N := 5) hx hb hts inw_CWr ty_CWr tyok_CWr nm_CWr hown hK hP hD hS 0 rfl rfl 2 (by decide) (hts (.fieldLink R_CWr 19 "LikelyBits$CodedWriter" "low" "I") mw_78) (fun _ h9 => h9) rfl (by decide +kernel) rfl rfl (Nat.le_of_ble_eq_true rfl) d_CWr_addLikely_16 (fun H locs hP hD hS => ?_)
    have hP : va_P D vwCl [(h0, .inr (4, [.ref qs, .ref qc, .int x14, .int sz, .int rm])), (qc, .inr (1, [.ref qf, .ref qg])), (qf, .inl (k.1, 19, .inl sf)), (qg, .inl (k.1, 19, .inl lf))] H := hP
    have hD : va_D A [(h0, .inr (4, [.ref qs, .ref qc, .int x14, .int sz, .int rm])), (qc, .inr (1, [.ref qf, .ref qg])), (qf, .inl (k.1, 19, .inl sf)), (qg, .inl (k.1, 19, .inl lf))] := hD
    exact krv (wo := wo_CWr_addLikely k h0 qc qf qg qs lo sz rm sf lf x pt) hx hb hr hlk hP hD hS (x14, sz, sf, lf) () (by subst ex14; simp [po_CWr_addLikely, aLk, c1]) trivial [0, 1, 2, 3] rfl (by decide) (Nat.le_of_ble_eq_true rfl) (Nat.le_of_ble_eq_true rfl) d_CWr_addLikely_19

def wo_CWr_addOther (k : gK) (h0 qc qf qg : Nat) (qs : Nat) (lo : Int32) (sz : Int32) (rm : Int32) (sf : Nat → Int32) (lf : Nat → Int32) (x : Int32) (pt : Int32) (zz : Unit) (uu : Int32 × Int32 × (Nat → Int32) × (Nat → Int32)) : va_W := match zz, uu with
  | _, (lo2, sz2, sf2, lf2) => [(h0, .inr (4, [.ref qs, .ref qc, .int lo2, .int sz2, .int rm])), (qc, .inr (1, [.ref qf, .ref qg])), (qf, .inl (k.1, 19, .inl sf2)), (qg, .inl (k.1, 19, .inl lf2))]
def ex_CWr_addOther (k : gK) (h0 qc qf qg : Nat) (qs : Nat) (lo : Int32) (sz : Int32) (rm : Int32) (sf : Nat → Int32) (lf : Nat → Int32) (x : Int32) (pt : Int32) (zz : Unit) (uu : Int32 × Int32 × (Nat → Int32) × (Nat → Int32)) : Prop := match zz, uu with
  | _, (lo2, sz2, sf2, lf2) => True
def po_CWr_addOther (k : gK) (h0 qc qf qg : Nat) (qs : Nat) (lo : Int32) (sz : Int32) (rm : Int32) (sf : Nat → Int32) (lf : Nat → Int32) (x : Int32) (pt : Int32) (uu : Int32 × Int32 × (Nat → Int32) × (Nat → Int32)) : Prop := match uu with
  | (lo2, sz2, sf2, lf2) => lo2 = (aOt lo sz sf lf x pt).1 ∧ sz2 = (aOt lo sz sf lf x pt).2.1 ∧ sf2 = (aOt lo sz sf lf x pt).2.2.1 ∧ lf2 = (aOt lo sz sf lf x pt).2.2.2
def qc_CWr_addOther (D : va_G) (k : gK) (h0 qc qf qg : Nat) (qs : Nat) (lo : Int32) (sz : Int32) (rm : Int32) (sf : Nat → Int32) (lf : Nat → Int32) (x : Int32) (pt : Int32) (A : Nat → Prop) : Array Value → State → Outcome → State → Prop := va_Qv (po_CWr_addOther k h0 qc qf qg qs lo sz rm sf lf x pt) (fun uu t => ∃ zz, ex_CWr_addOther k h0 qc qf qg qs lo sz rm sf lf x pt zz uu ∧ GP D A (wo_CWr_addOther k h0 qc qf qg qs lo sz rm sf lf x pt zz uu) t) A
set_option maxHeartbeats 1000000 in
set_option maxRecDepth 100000 in
theorem c_CWr_addOther (l : Launch) (hl9 : l.stackTraces = false) (D : va_G) (k : gK) (h0 qc qf qg : Nat) (zsz : Nat) (qs : Nat) (lo : Int32) (sz : Int32) (rm : Int32) (sf : Nat → Int32) (lf : Nat → Int32) (x : Int32) (pt : Int32) : Met l y_CWr_addOther (.code y_CWr_addOther b_CWr_addOther 3 none :: AW) ({ frames := 3, cells := 0, slots := 0, locals := 65 }) (va_Pc [.ref h0, .int x, .int pt] (GG D k [(h0, .inr (4, [.ref qs, .ref qc, .int lo, .int sz, .int rm])), (qc, .inr (1, [.ref qf, .ref qg])), (qf, .inl (k.1, 19, .inl sf)), (qg, .inl (k.1, 19, .inl lf))] zsz)) (qc_CWr_addOther D k h0 qc qf qg qs lo sz rm sf lf x pt (va_A [(h0, .inr (4, [.ref qs, .ref qc, .int lo, .int sz, .int rm])), (qc, .inr (1, [.ref qf, .ref qg])), (qf, .inl (k.1, 19, .inl sf)), (qg, .inl (k.1, 19, .inl lf))] zsz)) 0 0 (va_A [(h0, .inr (4, [.ref qs, .ref qc, .int lo, .int sz, .int rm])), (qc, .inr (1, [.ref qf, .ref qg])), (qf, .inl (k.1, 19, .inl sf)), (qg, .inl (k.1, 19, .inl lf))] zsz) := by
  refine kMet (ws := [(h0, .inr (4, [.ref qs, .ref qc, .int lo, .int sz, .int rm])), (qc, .inr (1, [.ref qf, .ref qg])), (qf, .inl (k.1, 19, .inl sf)), (qg, .inl (k.1, 19, .inl lf))]) (Qc := qc_CWr_addOther D k h0 qc qf qg qs lo sz rm sf lf x pt) (by decide) (Nat.le_of_ble_eq_true rfl) (fun p e s m below meth c ls A H Cc hP hD hA hS hl => ?_)
  obtain ⟨hx, hb, hml, hr, hlk, hown, hts, hK, hE, hin⟩ := Cc
  have hl : lv_has ls 3 [(0, .ref h0), (1, .int x), (2, .int pt)] := hl
  refine lv_aload_n hx hb d_CWr_addOther_0 rfl (lv_at hl 0 rfl) ?_
  refine va_get (D := D) (ci := 4) (v := .int sz) (C := R_CWr) (T := T_CWr) (N := 5) hx hb hts inw_CWr hown hK hP 0 rfl rfl 3 (by decide) (hts (.fieldLink R_CWr 24 "LikelyBits$CodedWriter" "size" "I") mw_80) (fun _ h9 => h9) rfl d_CWr_addOther_1 ?_
  refine lv_iload_n hx hb d_CWr_addOther_4 rfl (lv_at hl 2 rfl) ?_
  refine lv_icmp_ge (tgt := 21) hx hb d_CWr_addOther_5 (by decide) (fun c1 => ?_) (fun c1 => ?_)
  · refine lv_aload_n hx hb d_CWr_addOther_21 rfl (lv_at hl 0 rfl) ?_
    refine lv_iload_n hx hb d_CWr_addOther_22 rfl (lv_at hl 2 rfl) ?_
    refine va_put (D := D) (ci := 4) (v := .int pt) (ty := .int) (C := R_CWr) (T := T_CWr) (N := 5) hx hb hts inw_CWr ty_CWr tyok_CWr nm_CWr hown hK hP hD hS 0 rfl rfl 3 (by decide) (hts (.fieldLink R_CWr 24 "LikelyBits$CodedWriter" "size" "I") mw_80) (fun _ h9 => h9) rfl (by decide +kernel) rfl rfl (Nat.le_of_ble_eq_true rfl) d_CWr_addOther_23 (fun H locs hP hD hS => ?_)
    have hP : va_P D vwCl [(h0, .inr (4, [.ref qs, .ref qc, .int lo, .int pt, .int rm])), (qc, .inr (1, [.ref qf, .ref qg])), (qf, .inl (k.1, 19, .inl sf)), (qg, .inl (k.1, 19, .inl lf))] H := hP
    have hD : va_D A [(h0, .inr (4, [.ref qs, .ref qc, .int lo, .int pt, .int rm])), (qc, .inr (1, [.ref qf, .ref qg])), (qf, .inl (k.1, 19, .inl sf)), (qg, .inl (k.1, 19, .inl lf))] := hD
    refine lv_aload_n hx hb d_CWr_addOther_26 rfl (lv_at hl 0 rfl) ?_
    refine va_get (D := D) (ci := 4) (v := .ref qc) (C := R_CWr) (T := T_CWr) (N := 5) hx hb hts inw_CWr hown hK hP 0 rfl rfl 1 (by decide) (hts (.fieldLink R_CWr 15 "LikelyBits$CodedWriter" "contexts" "LLikelyBits$Contexts;") mw_77) (fun _ h9 => h9) rfl d_CWr_addOther_27 ?_
    refine lv_iload_n hx hb d_CWr_addOther_30 rfl (lv_at hl 1 rfl) ?_
    refine kcv (wc := [(qc, .inr (1, [.ref qf, .ref qg])), (qf, .inl (k.1, 19, .inl sf)), (qg, .inl (k.1, 19, .inl lf))]) (wr := [(h0, .inr (4, [.ref qs, .ref qc, .int lo, .int pt, .int rm]))]) (va_runV (As := [.int x]) (rest := []) ⟨hx, hb, hml, hown, hts⟩ (c_Cxt_afterOther l hl9 D k qc qf qg H.size sf lf x ) (cwV 1 hts (gV mw_101 mw_102 mw_103 mw_23 mw_104) rfl rfl rfl (by decide +kernel) ⟨(Nat.le_of_ble_eq_true rfl), (Nat.le_of_ble_eq_true rfl)⟩) (kRecv (q := (R_Cxt, T_Cxt, 2)) (q0 := 1) (ci := 1) hK hP rfl rfl (kPre (wc := [(qc, .inr (1, [.ref qf, .ref qg])), (qf, .inl (k.1, 19, .inl sf)), (qg, .inl (k.1, 19, .inl lf))]) hE hK hP hD hS hA [1, 2, 3] rfl (by decide))) rfl rfl hl.1 rfl (lv_room (Nat.le_of_ble_eq_true rfl)) d_CWr_addOther_31 ⟨(Nat.le_of_ble_eq_true rfl), (Nat.le_of_ble_eq_true rfl)⟩) hP hD hS hA [1, 2, 3] [0] rfl rfl (by decide) (by decide) (fun zz uu H locs hw5 hz6 hP hD hS => ?_)
    obtain ⟨sf_2, lf_3⟩ := uu
    have hw5 : sf_2 = (cOt sf lf x).1 ∧ lf_3 = (cOt sf lf x).2 := hw5
    have hP : va_P D vwCl [(h0, .inr (4, [.ref qs, .ref qc, .int lo, .int pt, .int rm])), (qc, .inr (1, [.ref qf, .ref qg])), (qf, .inl (k.1, 19, .inl sf_2)), (qg, .inl (k.1, 19, .inl lf_3))] H := hP
    have hD : va_D A [(h0, .inr (4, [.ref qs, .ref qc, .int lo, .int pt, .int rm])), (qc, .inr (1, [.ref qf, .ref qg])), (qf, .inl (k.1, 19, .inl sf_2)), (qg, .inl (k.1, 19, .inl lf_3))] := hD
    exact krv (wo := wo_CWr_addOther k h0 qc qf qg qs lo sz rm sf lf x pt) hx hb hr hlk hP hD hS (lo, pt, sf_2, lf_3) () (by obtain ⟨rfl, rfl⟩ := hw5; simp [po_CWr_addOther, aOt, c1]) trivial [0, 1, 2, 3] rfl (by decide) (Nat.le_of_ble_eq_true rfl) (Nat.le_of_ble_eq_true rfl) d_CWr_addOther_34
  · refine lv_aload_n hx hb d_CWr_addOther_8 rfl (lv_at hl 0 rfl) ?_
    refine lv_dup hx hb d_CWr_addOther_9 rfl ?_
    refine va_get (D := D) (ci := 4) (v := .int lo) (C := R_CWr) (T := T_CWr) (N := 5) hx hb hts inw_CWr hown hK hP 0 rfl rfl 2 (by decide) (hts (.fieldLink R_CWr 19 "LikelyBits$CodedWriter" "low" "I") mw_78) (fun _ h9 => h9) rfl d_CWr_addOther_10 ?_
    refine lv_iload_n hx hb d_CWr_addOther_13 rfl (lv_at hl 2 rfl) ?_
    refine lv_iadd hx hb d_CWr_addOther_14 ?_
    refine lv_topi (fun x7 ex7 => ?_)
    refine va_put (D := D) (ci := 4) (v := .int x7) (ty := .int) (C := R_CWr) (T := T_CWr) (N := 5) hx hb hts inw_CWr ty_CWr tyok_CWr nm_CWr hown hK hP hD hS 0 rfl rfl 2 (by decide) (hts (.fieldLink R_CWr 19 "LikelyBits$CodedWriter" "low" "I") mw_78) (fun _ h9 => h9) rfl (by decide +kernel) rfl rfl (Nat.le_of_ble_eq_true rfl) d_CWr_addOther_15 (fun H locs hP hD hS => ?_)
    have hP : va_P D vwCl [(h0, .inr (4, [.ref qs, .ref qc, .int x7, .int sz, .int rm])), (qc, .inr (1, [.ref qf, .ref qg])), (qf, .inl (k.1, 19, .inl sf)), (qg, .inl (k.1, 19, .inl lf))] H := hP
    have hD : va_D A [(h0, .inr (4, [.ref qs, .ref qc, .int x7, .int sz, .int rm])), (qc, .inr (1, [.ref qf, .ref qg])), (qf, .inl (k.1, 19, .inl sf)), (qg, .inl (k.1, 19, .inl lf))] := hD
    refine lv_goto (tgt := 26) hx hb d_CWr_addOther_18 (by decide) ?_
    refine lv_aload_n hx hb d_CWr_addOther_26 rfl (lv_at hl 0 rfl) ?_
    refine va_get (D := D) (ci := 4) (v := .ref qc) (C := R_CWr) (T := T_CWr) (N := 5) hx hb hts inw_CWr hown hK hP 0 rfl rfl 1 (by decide) (hts (.fieldLink R_CWr 15 "LikelyBits$CodedWriter" "contexts" "LLikelyBits$Contexts;") mw_77) (fun _ h9 => h9) rfl d_CWr_addOther_27 ?_
    refine lv_iload_n hx hb d_CWr_addOther_30 rfl (lv_at hl 1 rfl) ?_
    refine kcv (wc := [(qc, .inr (1, [.ref qf, .ref qg])), (qf, .inl (k.1, 19, .inl sf)), (qg, .inl (k.1, 19, .inl lf))]) (wr := [(h0, .inr (4, [.ref qs, .ref qc, .int x7, .int sz, .int rm]))]) (va_runV (As := [.int x]) (rest := []) ⟨hx, hb, hml, hown, hts⟩ (c_Cxt_afterOther l hl9 D k qc qf qg H.size sf lf x ) (cwV 1 hts (gV mw_101 mw_102 mw_103 mw_23 mw_104) rfl rfl rfl (by decide +kernel) ⟨(Nat.le_of_ble_eq_true rfl), (Nat.le_of_ble_eq_true rfl)⟩) (kRecv (q := (R_Cxt, T_Cxt, 2)) (q0 := 1) (ci := 1) hK hP rfl rfl (kPre (wc := [(qc, .inr (1, [.ref qf, .ref qg])), (qf, .inl (k.1, 19, .inl sf)), (qg, .inl (k.1, 19, .inl lf))]) hE hK hP hD hS hA [1, 2, 3] rfl (by decide))) rfl rfl hl.1 rfl (lv_room (Nat.le_of_ble_eq_true rfl)) d_CWr_addOther_31 ⟨(Nat.le_of_ble_eq_true rfl), (Nat.le_of_ble_eq_true rfl)⟩) hP hD hS hA [1, 2, 3] [0] rfl rfl (by decide) (by decide) (fun zz uu H locs hw11 hz12 hP hD hS => ?_)
    obtain ⟨sf_8, lf_9⟩ := uu
    have hw11 : sf_8 = (cOt sf lf x).1 ∧ lf_9 = (cOt sf lf x).2 := hw11
    have hP : va_P D vwCl [(h0, .inr (4, [.ref qs, .ref qc, .int x7, .int sz, .int rm])), (qc, .inr (1, [.ref qf, .ref qg])), (qf, .inl (k.1, 19, .inl sf_8)), (qg, .inl (k.1, 19, .inl lf_9))] H := hP
    have hD : va_D A [(h0, .inr (4, [.ref qs, .ref qc, .int x7, .int sz, .int rm])), (qc, .inr (1, [.ref qf, .ref qg])), (qf, .inl (k.1, 19, .inl sf_8)), (qg, .inl (k.1, 19, .inl lf_9))] := hD
    exact krv (wo := wo_CWr_addOther k h0 qc qf qg qs lo sz rm sf lf x pt) hx hb hr hlk hP hD hS (x7, sz, sf_8, lf_9) () (by obtain ⟨rfl, rfl⟩ := hw11; subst ex7; simp [po_CWr_addOther, aOt, c1]) trivial [0, 1, 2, 3] rfl (by decide) (Nat.le_of_ble_eq_true rfl) (Nat.le_of_ble_eq_true rfl) d_CWr_addOther_34

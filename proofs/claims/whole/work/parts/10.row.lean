set_option maxRecDepth 20000 in
theorem mw_0 : (Cond.fieldLink R_Row 15 "LikelyBits$Row" "used" "I") ∈ AW := inAW (List.mem_append_right _ (show _ ∈ tables_1_1 ++ (tables_1_2 ++ (tables_1_3 ++ tables_1_4)) from (List.mem_append_left _ (List.mem_of_getElem? (i := 36) rfl)))) rfl
set_option maxRecDepth 20000 in
theorem mw_1 : (Cond.fieldLink R_Row 11 "LikelyBits$Row" "cells" "[I") ∈ AW := inAW (List.mem_append_right _ (show _ ∈ tables_1_1 ++ (tables_1_2 ++ (tables_1_3 ++ tables_1_4)) from (List.mem_append_left _ (List.mem_of_getElem? (i := 35) rfl)))) rfl
set_option maxHeartbeats 1000000 in
set_option maxRecDepth 100000 in
theorem c_Row_count (l : Launch) (hl9 : l.stackTraces = false) (D : va_G) (k : gK) (h0 : Nat) (h1 : Nat) (u : Int32) : Met l y_Row_count (.code y_Row_count b_Row_count 1 (some .int) :: AW) { frames := 0, cells := 0, slots := 0, locals := 0 } (va_Pc [.ref h0] (GR D k [(h0, .inr (0, [.ref h1, .int u]))])) (va_Qi (fun r (_ : Unit) => r = u) (fun _ _ => True) (fun _ => False)) 0 0 (fun _ => False) := by
  refine kMetR (ws := [(h0, .inr (0, [.ref h1, .int u]))]) (by decide) (Nat.le_of_ble_eq_true rfl) (fun p e s m below meth c ls H Cc hP hS hl => ?_)
  obtain ⟨hx, hb, hml, hr, hlk, hown, hts, hK, hE, hin⟩ := Cc
  have hl : lv_has ls 1 [(0, .ref h0)] := hl
  refine lv_aload_n hx hb d_Row_count_0 rfl (lv_at hl 0 rfl) ?_
  refine va_get (D := D) (ci := 0) (v := .int u) (C := R_Row) (T := T_Row) (N := 2) hx hb hts inw_Row hown hK hP 0 rfl rfl 1 (by decide) (hts (.fieldLink R_Row 15 "LikelyBits$Row" "used" "I") mw_0) (fun _ h9 => h9) rfl d_Row_count_1 ?_
  exact koi hx hb hr hlk hS rfl (Nat.le_of_ble_eq_true rfl) (Nat.le_of_ble_eq_true rfl) d_Row_count_4

set_option maxHeartbeats 1000000 in
set_option maxRecDepth 100000 in
theorem c_Row_byteAt (l : Launch) (hl9 : l.stackTraces = false) (D : va_G) (k : gK) (h0 h1 : Nat) (n : Nat) (f : Nat → Int32) (u : Int32) (L : List Int32) (x : Int32) (hR : row_ok n f u L) : Met l y_Row_byteAt (.code y_Row_byteAt b_Row_byteAt 2 (some .int) :: AW) { frames := 0, cells := 0, slots := 0, locals := 0 } (va_Pc [.ref h0, .int x] (GR D k [(h0, .inr (0, [.ref h1, .int u])), (h1, .inl (k.1, n, .inl f))])) (va_Qi (fun r (_ : Unit) => r = rb L x) (fun _ _ => True) (fun _ => False)) 0 0 (fun _ => False) := by
  refine kMetR (ws := [(h0, .inr (0, [.ref h1, .int u])), (h1, .inl (k.1, n, .inl f))]) (by decide) (Nat.le_of_ble_eq_true rfl) (fun p e s m below meth c ls H Cc hP hS hl => ?_)
  obtain ⟨hx, hb, hml, hr, hlk, hown, hts, hK, hE, hin⟩ := Cc
  have hl : lv_has ls 2 [(0, .ref h0), (1, .int x)] := hl
  refine lv_iload_n hx hb d_Row_byteAt_0 rfl (lv_at hl 1 rfl) ?_
  refine lv_if_lt (tgt := 30) hx hb d_Row_byteAt_1 (by decide) (fun c1 => ?_) (fun c1 => ?_)
  · refine lv_sipush (v := 255) hx hb d_Row_byteAt_30 (by decide) ?_
    exact koi hx hb hr hlk hS (rb_neg c1) (Nat.le_of_ble_eq_true rfl) (Nat.le_of_ble_eq_true rfl) d_Row_byteAt_33
  · refine lv_iload_n hx hb d_Row_byteAt_4 rfl (lv_at hl 1 rfl) ?_
    refine lv_aload_n hx hb d_Row_byteAt_5 rfl (lv_at hl 0 rfl) ?_
    refine va_get (D := D) (ci := 0) (v := .int u) (C := R_Row) (T := T_Row) (N := 2) hx hb hts inw_Row hown hK hP 0 rfl rfl 1 (by decide) (hts (.fieldLink R_Row 15 "LikelyBits$Row" "used" "I") mw_0) (fun _ h9 => h9) rfl d_Row_byteAt_6 ?_
    refine lv_icmp_ge (tgt := 30) hx hb d_Row_byteAt_9 (by decide) (fun c2 => ?_) (fun c2 => ?_)
    · refine lv_sipush (v := 255) hx hb d_Row_byteAt_30 (by decide) ?_
      exact koi hx hb hr hlk hS (rb_out hR c1 c2) (Nat.le_of_ble_eq_true rfl) (Nat.le_of_ble_eq_true rfl) d_Row_byteAt_33
    · refine lv_iload_n hx hb d_Row_byteAt_12 rfl (lv_at hl 1 rfl) ?_
      refine lv_aload_n hx hb d_Row_byteAt_13 rfl (lv_at hl 0 rfl) ?_
      refine va_get (D := D) (ci := 0) (v := .ref h1) (C := R_Row) (T := T_Row) (N := 2) hx hb hts inw_Row hown hK hP 0 rfl rfl 0 (by decide) (hts (.fieldLink R_Row 11 "LikelyBits$Row" "cells" "[I") mw_1) (fun _ h9 => h9) rfl d_Row_byteAt_14 ?_
      refine va_alen (v := nI n) hx hb hK hP 1 0 rfl rfl rfl d_Row_byteAt_17 ?_
      refine lv_icmp_ge (tgt := 30) hx hb d_Row_byteAt_18 (by decide) (fun c3 => ?_) (fun c3 => ?_)
      · exact (row_dead hR c1 c2 c3).elim
      · refine lv_aload_n hx hb d_Row_byteAt_21 rfl (lv_at hl 0 rfl) ?_
        refine va_get (D := D) (ci := 0) (v := .ref h1) (C := R_Row) (T := T_Row) (N := 2) hx hb hts inw_Row hown hK hP 0 rfl rfl 0 (by decide) (hts (.fieldLink R_Row 11 "LikelyBits$Row" "cells" "[I") mw_1) (fun _ h9 => h9) rfl d_Row_byteAt_22 ?_
        refine lv_iload_n hx hb d_Row_byteAt_25 rfl (lv_at hl 1 rfl) ?_
        refine va_iald hx hb hK hP 1 0 rfl rfl (row_in hR c1 c3) d_Row_byteAt_26 ?_
        refine lv_goto (tgt := 33) hx hb d_Row_byteAt_27 (by decide) ?_
        exact koi hx hb hr hlk hS (rb_in hR c1 c2) (Nat.le_of_ble_eq_true rfl) (Nat.le_of_ble_eq_true rfl) d_Row_byteAt_33

def wo_Row_change (k : gK) (h0 h1 : Nat) (n : Nat) (f : Nat → Int32) (u : Int32) (L : List Int32) (x : Int32) (b : Int32) (zz : Nat → Int32) (uu : List Int32) : va_W := match zz, uu with
  | f2, L2 => [(h0, .inr (0, [.ref h1, .int u])), (h1, .inl (k.1, n, .inl f2))]
def ex_Row_change (k : gK) (h0 h1 : Nat) (n : Nat) (f : Nat → Int32) (u : Int32) (L : List Int32) (x : Int32) (b : Int32) (zz : Nat → Int32) (uu : List Int32) : Prop := match zz, uu with
  | f2, L2 => row_ok n f2 u L2
def po_Row_change (k : gK) (h0 h1 : Nat) (n : Nat) (f : Nat → Int32) (u : Int32) (L : List Int32) (x : Int32) (b : Int32) (uu : List Int32) : Prop := match uu with
  | L2 => L2 = rs L x b
def qc_Row_change (D : va_G) (k : gK) (h0 h1 : Nat) (n : Nat) (f : Nat → Int32) (u : Int32) (L : List Int32) (x : Int32) (b : Int32) (A : Nat → Prop) : Array Value → State → Outcome → State → Prop := va_Qv (po_Row_change k h0 h1 n f u L x b) (fun uu t => ∃ zz, ex_Row_change k h0 h1 n f u L x b zz uu ∧ GP D A (wo_Row_change k h0 h1 n f u L x b zz uu) t) A
set_option maxHeartbeats 1000000 in
set_option maxRecDepth 100000 in
theorem c_Row_change (l : Launch) (hl9 : l.stackTraces = false) (D : va_G) (k : gK) (h0 h1 : Nat) (zsz : Nat) (n : Nat) (f : Nat → Int32) (u : Int32) (L : List Int32) (x : Int32) (b : Int32) (hR : row_ok n f u L) : Met l y_Row_change (.code y_Row_change b_Row_change 3 none :: AW) ({ frames := 0, cells := 0, slots := 0, locals := 0 }) (va_Pc [.ref h0, .int x, .int b] (GG D k [(h0, .inr (0, [.ref h1, .int u])), (h1, .inl (k.1, n, .inl f))] zsz)) (qc_Row_change D k h0 h1 n f u L x b (va_A [(h0, .inr (0, [.ref h1, .int u])), (h1, .inl (k.1, n, .inl f))] zsz)) 0 0 (va_A [(h0, .inr (0, [.ref h1, .int u])), (h1, .inl (k.1, n, .inl f))] zsz) := by
  refine kMet (ws := [(h0, .inr (0, [.ref h1, .int u])), (h1, .inl (k.1, n, .inl f))]) (Qc := qc_Row_change D k h0 h1 n f u L x b) (by decide) (Nat.le_of_ble_eq_true rfl) (fun p e s m below meth c ls A H Cc hP hD hA hS hl => ?_)
  obtain ⟨hx, hb, hml, hr, hlk, hown, hts, hK, hE, hin⟩ := Cc
  have hl : lv_has ls 3 [(0, .ref h0), (1, .int x), (2, .int b)] := hl
  refine lv_iload_n hx hb d_Row_change_0 rfl (lv_at hl 1 rfl) ?_
  refine lv_if_lt (tgt := 28) hx hb d_Row_change_1 (by decide) (fun c1 => ?_) (fun c1 => ?_)
  · exact krv (wo := wo_Row_change k h0 h1 n f u L x b) hx hb hr hlk hP hD hS L f (rs_neg c1) hR [0, 1] rfl (by decide) (Nat.le_of_ble_eq_true rfl) (Nat.le_of_ble_eq_true rfl) d_Row_change_28
  · refine lv_iload_n hx hb d_Row_change_4 rfl (lv_at hl 1 rfl) ?_
    refine lv_aload_n hx hb d_Row_change_5 rfl (lv_at hl 0 rfl) ?_
    refine va_get (D := D) (ci := 0) (v := .int u) (C := R_Row) (T := T_Row) (N := 2) hx hb hts inw_Row hown hK hP 0 rfl rfl 1 (by decide) (hts (.fieldLink R_Row 15 "LikelyBits$Row" "used" "I") mw_0) (fun _ h9 => h9) rfl d_Row_change_6 ?_
    refine lv_icmp_ge (tgt := 28) hx hb d_Row_change_9 (by decide) (fun c2 => ?_) (fun c2 => ?_)
    · exact krv (wo := wo_Row_change k h0 h1 n f u L x b) hx hb hr hlk hP hD hS L f (rs_out hR c1 c2) hR [0, 1] rfl (by decide) (Nat.le_of_ble_eq_true rfl) (Nat.le_of_ble_eq_true rfl) d_Row_change_28
    · refine lv_iload_n hx hb d_Row_change_12 rfl (lv_at hl 1 rfl) ?_
      refine lv_aload_n hx hb d_Row_change_13 rfl (lv_at hl 0 rfl) ?_
      refine va_get (D := D) (ci := 0) (v := .ref h1) (C := R_Row) (T := T_Row) (N := 2) hx hb hts inw_Row hown hK hP 0 rfl rfl 0 (by decide) (hts (.fieldLink R_Row 11 "LikelyBits$Row" "cells" "[I") mw_1) (fun _ h9 => h9) rfl d_Row_change_14 ?_
      refine va_alen (v := nI n) hx hb hK hP 1 0 rfl rfl rfl d_Row_change_17 ?_
      refine lv_icmp_ge (tgt := 28) hx hb d_Row_change_18 (by decide) (fun c3 => ?_) (fun c3 => ?_)
      · exact (row_dead hR c1 c2 c3).elim
      · refine lv_aload_n hx hb d_Row_change_21 rfl (lv_at hl 0 rfl) ?_
        refine va_get (D := D) (ci := 0) (v := .ref h1) (C := R_Row) (T := T_Row) (N := 2) hx hb hts inw_Row hown hK hP 0 rfl rfl 0 (by decide) (hts (.fieldLink R_Row 11 "LikelyBits$Row" "cells" "[I") mw_1) (fun _ h9 => h9) rfl d_Row_change_22 ?_
        refine lv_iload_n hx hb d_Row_change_25 rfl (lv_at hl 1 rfl) ?_
        refine lv_iload_n hx hb d_Row_change_26 rfl (lv_at hl 2 rfl) ?_
        refine va_iast hx hb hK hP hD hS 1 0 rfl rfl (row_in hR c1 c3) d_Row_change_27 (fun H locs hP hD hS => ?_)
        have hP : va_P D vwCl [(h0, .inr (0, [.ref h1, .int u])), (h1, .inl (k.1, n, .inl (upd f x.toNatClampNeg b)))] H := hP
        have hD : va_D A [(h0, .inr (0, [.ref h1, .int u])), (h1, .inl (k.1, n, .inl (upd f x.toNatClampNeg b)))] := hD
        exact krv (wo := wo_Row_change k h0 h1 n f u L x b) hx hb hr hlk hP hD hS (rs L x b) (upd f x.toNatClampNeg b) rfl (rs_ok hR c1) [0, 1] rfl (by decide) (Nat.le_of_ble_eq_true rfl) (Nat.le_of_ble_eq_true rfl) d_Row_change_28

def wo_Row_empty (k : gK) (h0 h1 : Nat) (n : Nat) (f : Nat → Int32) (u : Int32) (L : List Int32) (zz : Int32) (uu : List Int32) : va_W := match zz, uu with
  | u2, L2 => [(h0, .inr (0, [.ref h1, .int u2])), (h1, .inl (k.1, n, .inl f))]
def ex_Row_empty (k : gK) (h0 h1 : Nat) (n : Nat) (f : Nat → Int32) (u : Int32) (L : List Int32) (zz : Int32) (uu : List Int32) : Prop := match zz, uu with
  | u2, L2 => row_ok n f u2 L2
def po_Row_empty (k : gK) (h0 h1 : Nat) (n : Nat) (f : Nat → Int32) (u : Int32) (L : List Int32) (uu : List Int32) : Prop := match uu with
  | L2 => L2 = []
def qc_Row_empty (D : va_G) (k : gK) (h0 h1 : Nat) (n : Nat) (f : Nat → Int32) (u : Int32) (L : List Int32) (A : Nat → Prop) : Array Value → State → Outcome → State → Prop := va_Qv (po_Row_empty k h0 h1 n f u L) (fun uu t => ∃ zz, ex_Row_empty k h0 h1 n f u L zz uu ∧ GP D A (wo_Row_empty k h0 h1 n f u L zz uu) t) A
set_option maxHeartbeats 1000000 in
set_option maxRecDepth 100000 in
theorem c_Row_empty (l : Launch) (hl9 : l.stackTraces = false) (D : va_G) (k : gK) (h0 h1 : Nat) (zsz : Nat) (n : Nat) (f : Nat → Int32) (u : Int32) (L : List Int32) (hR : row_ok n f u L) : Met l y_Row_empty (.code y_Row_empty b_Row_empty 1 none :: AW) ({ frames := 0, cells := 0, slots := 0, locals := 0 }) (va_Pc [.ref h0] (GG D k [(h0, .inr (0, [.ref h1, .int u])), (h1, .inl (k.1, n, .inl f))] zsz)) (qc_Row_empty D k h0 h1 n f u L (va_A [(h0, .inr (0, [.ref h1, .int u])), (h1, .inl (k.1, n, .inl f))] zsz)) 0 0 (va_A [(h0, .inr (0, [.ref h1, .int u])), (h1, .inl (k.1, n, .inl f))] zsz) := by
  refine kMet (ws := [(h0, .inr (0, [.ref h1, .int u])), (h1, .inl (k.1, n, .inl f))]) (Qc := qc_Row_empty D k h0 h1 n f u L) (by decide) (Nat.le_of_ble_eq_true rfl) (fun p e s m below meth c ls A H Cc hP hD hA hS hl => ?_)
  obtain ⟨hx, hb, hml, hr, hlk, hown, hts, hK, hE, hin⟩ := Cc
  have hl : lv_has ls 1 [(0, .ref h0)] := hl
  refine lv_aload_n hx hb d_Row_empty_0 rfl (lv_at hl 0 rfl) ?_
  refine lv_iconst (v := 0) hx hb d_Row_empty_1 (by decide) ?_
  refine va_put (D := D) (ci := 0) (v := .int 0) (ty := .int) (C := R_Row) (T := T_Row) (N := 2) hx hb hts inw_Row ty_Row tyok_Row nm_Row hown hK hP hD hS 0 rfl rfl 1 (by decide) (hts (.fieldLink R_Row 15 "LikelyBits$Row" "used" "I") mw_0) (fun _ h9 => h9) rfl (by decide +kernel) rfl rfl (Nat.le_of_ble_eq_true rfl) d_Row_empty_2 (fun H locs hP hD hS => ?_)
  have hP : va_P D vwCl [(h0, .inr (0, [.ref h1, .int 0])), (h1, .inl (k.1, n, .inl f))] H := hP
  have hD : va_D A [(h0, .inr (0, [.ref h1, .int 0])), (h1, .inl (k.1, n, .inl f))] := hD
  exact krv (wo := wo_Row_empty k h0 h1 n f u L) hx hb hr hlk hP hD hS [] 0 rfl (row_ok_nil hR) [0, 1] rfl (by decide) (Nat.le_of_ble_eq_true rfl) (Nat.le_of_ble_eq_true rfl) d_Row_empty_5

def wo_Row_dropLast (k : gK) (h0 h1 : Nat) (n : Nat) (f : Nat → Int32) (u : Int32) (L : List Int32) (zz : Int32) (uu : List Int32) : va_W := match zz, uu with
  | u2, L2 => [(h0, .inr (0, [.ref h1, .int u2])), (h1, .inl (k.1, n, .inl f))]
def ex_Row_dropLast (k : gK) (h0 h1 : Nat) (n : Nat) (f : Nat → Int32) (u : Int32) (L : List Int32) (zz : Int32) (uu : List Int32) : Prop := match zz, uu with
  | u2, L2 => row_ok n f u2 L2
def po_Row_dropLast (k : gK) (h0 h1 : Nat) (n : Nat) (f : Nat → Int32) (u : Int32) (L : List Int32) (uu : List Int32) : Prop := match uu with
  | L2 => L2 = L.dropLast
def qc_Row_dropLast (D : va_G) (k : gK) (h0 h1 : Nat) (n : Nat) (f : Nat → Int32) (u : Int32) (L : List Int32) (A : Nat → Prop) : Array Value → State → Outcome → State → Prop := va_Qv (po_Row_dropLast k h0 h1 n f u L) (fun uu t => ∃ zz, ex_Row_dropLast k h0 h1 n f u L zz uu ∧ GP D A (wo_Row_dropLast k h0 h1 n f u L zz uu) t) A
set_option maxHeartbeats 1000000 in
set_option maxRecDepth 100000 in
theorem c_Row_dropLast (l : Launch) (hl9 : l.stackTraces = false) (D : va_G) (k : gK) (h0 h1 : Nat) (zsz : Nat) (n : Nat) (f : Nat → Int32) (u : Int32) (L : List Int32) (hR : row_ok n f u L) : Met l y_Row_dropLast (.code y_Row_dropLast b_Row_dropLast 1 none :: AW) ({ frames := 0, cells := 0, slots := 0, locals := 0 }) (va_Pc [.ref h0] (GG D k [(h0, .inr (0, [.ref h1, .int u])), (h1, .inl (k.1, n, .inl f))] zsz)) (qc_Row_dropLast D k h0 h1 n f u L (va_A [(h0, .inr (0, [.ref h1, .int u])), (h1, .inl (k.1, n, .inl f))] zsz)) 0 0 (va_A [(h0, .inr (0, [.ref h1, .int u])), (h1, .inl (k.1, n, .inl f))] zsz) := by
  refine kMet (ws := [(h0, .inr (0, [.ref h1, .int u])), (h1, .inl (k.1, n, .inl f))]) (Qc := qc_Row_dropLast D k h0 h1 n f u L) (by decide) (Nat.le_of_ble_eq_true rfl) (fun p e s m below meth c ls A H Cc hP hD hA hS hl => ?_)
  obtain ⟨hx, hb, hml, hr, hlk, hown, hts, hK, hE, hin⟩ := Cc
  have hl : lv_has ls 1 [(0, .ref h0)] := hl
  refine lv_aload_n hx hb d_Row_dropLast_0 rfl (lv_at hl 0 rfl) ?_
  refine va_get (D := D) (ci := 0) (v := .int u) (C := R_Row) (T := T_Row) (N := 2) hx hb hts inw_Row hown hK hP 0 rfl rfl 1 (by decide) (hts (.fieldLink R_Row 15 "LikelyBits$Row" "used" "I") mw_0) (fun _ h9 => h9) rfl d_Row_dropLast_1 ?_
  refine lv_if_le (tgt := 17) hx hb d_Row_dropLast_4 (by decide) (fun c1 => ?_) (fun c1 => ?_)
  · exact krv (wo := wo_Row_dropLast k h0 h1 n f u L) hx hb hr hlk hP hD hS L u (row_nodrop hR c1) hR [0, 1] rfl (by decide) (Nat.le_of_ble_eq_true rfl) (Nat.le_of_ble_eq_true rfl) d_Row_dropLast_17
  · refine lv_aload_n hx hb d_Row_dropLast_7 rfl (lv_at hl 0 rfl) ?_
    refine lv_dup hx hb d_Row_dropLast_8 rfl ?_
    refine va_get (D := D) (ci := 0) (v := .int u) (C := R_Row) (T := T_Row) (N := 2) hx hb hts inw_Row hown hK hP 0 rfl rfl 1 (by decide) (hts (.fieldLink R_Row 15 "LikelyBits$Row" "used" "I") mw_0) (fun _ h9 => h9) rfl d_Row_dropLast_9 ?_
    refine lv_iconst (v := 1) hx hb d_Row_dropLast_12 (by decide) ?_
    refine lv_isub hx hb d_Row_dropLast_13 ?_
    refine lv_topi (fun x2 ex2 => ?_)
    refine va_put (D := D) (ci := 0) (v := .int x2) (ty := .int) (C := R_Row) (T := T_Row) (N := 2) hx hb hts inw_Row ty_Row tyok_Row nm_Row hown hK hP hD hS 0 rfl rfl 1 (by decide) (hts (.fieldLink R_Row 15 "LikelyBits$Row" "used" "I") mw_0) (fun _ h9 => h9) rfl (by decide +kernel) rfl rfl (Nat.le_of_ble_eq_true rfl) d_Row_dropLast_14 (fun H locs hP hD hS => ?_)
    have hP : va_P D vwCl [(h0, .inr (0, [.ref h1, .int x2])), (h1, .inl (k.1, n, .inl f))] H := hP
    have hD : va_D A [(h0, .inr (0, [.ref h1, .int x2])), (h1, .inl (k.1, n, .inl f))] := hD
    exact krv (wo := wo_Row_dropLast k h0 h1 n f u L) hx hb hr hlk hP hD hS L.dropLast x2 rfl (by rw [ex2]; exact row_drop hR c1) [0, 1] rfl (by decide) (Nat.le_of_ble_eq_true rfl) (Nat.le_of_ble_eq_true rfl) d_Row_dropLast_17

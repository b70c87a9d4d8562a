set_option maxRecDepth 20000 in
theorem mw_6 : (Cond.methodLink R_Arr 304 Lib.Math.min.name) ∈ AW := inAW (List.mem_append_right _ (show _ ∈ tables_1_1 ++ (tables_1_2 ++ (tables_1_3 ++ tables_1_4)) from (List.mem_append_right _ (List.mem_append_left _ (List.mem_of_getElem? (i := 120) rfl))))) rfl
set_option maxRecDepth 20000 in
theorem mw_7 : (Cond.static Lib.Math.min.name) ∈ AW := inAW (List.mem_append_right _ (show _ ∈ tables_1_1 ++ (tables_1_2 ++ (tables_1_3 ++ tables_1_4)) from (List.mem_append_right _ (List.mem_append_left _ (List.mem_of_getElem? (i := 108) rfl))))) rfl
set_option maxRecDepth 20000 in
theorem mw_8 : (Cond.initialized "java/lang/Math") ∈ AW := inAW (List.mem_append_right _ (show _ ∈ tables_1_1 ++ (tables_1_2 ++ (tables_1_3 ++ tables_1_4)) from (List.mem_append_left _ (List.mem_of_getElem? (i := 17) rfl)))) rfl
set_option maxRecDepth 20000 in
theorem mw_9 : (Cond.code Lib.Math.min.name Lib.Math.min.code 2 (some .int)) ∈ AW := inAW (List.mem_append_right _ (show _ ∈ tables_1_1 ++ (tables_1_2 ++ (tables_1_3 ++ tables_1_4)) from (List.mem_append_right _ (List.mem_append_left _ (List.mem_of_getElem? (i := 109) rfl))))) rfl
set_option maxRecDepth 20000 in
theorem mw_10 : (Cond.methodLink R_Arr 150 arraycopyName) ∈ AW := inAW (List.mem_append_right _ (show _ ∈ tables_1_1 ++ (tables_1_2 ++ (tables_1_3 ++ tables_1_4)) from (List.mem_append_right _ (List.mem_append_left _ (List.mem_of_getElem? (i := 121) rfl))))) rfl
set_option maxRecDepth 20000 in
theorem mw_11 : (Cond.native arraycopyName) ∈ AW := inAW (List.mem_append_right _ (show _ ∈ tables_1_1 ++ (tables_1_2 ++ (tables_1_3 ++ tables_1_4)) from (List.mem_append_right _ (List.mem_append_left _ (List.mem_of_getElem? (i := 123) rfl))))) rfl
set_option maxRecDepth 20000 in
theorem mw_12 : (Cond.static arraycopyName) ∈ AW := inAW (List.mem_append_right _ (show _ ∈ tables_1_1 ++ (tables_1_2 ++ (tables_1_3 ++ tables_1_4)) from (List.mem_append_right _ (List.mem_append_left _ (List.mem_of_getElem? (i := 122) rfl))))) rfl
set_option maxRecDepth 20000 in
theorem mw_13 : (Cond.initialized "java/lang/System") ∈ AW := inAW (List.mem_append_right _ (show _ ∈ tables_1_1 ++ (tables_1_2 ++ (tables_1_3 ++ tables_1_4)) from (List.mem_append_left _ (List.mem_of_getElem? (i := 19) rfl)))) rfl
set_option maxRecDepth 20000 in
theorem mw_14 : (Cond.constant R_Row 19 65536) ∈ AW := inAW (List.mem_append_right _ (show _ ∈ tables_1_1 ++ (tables_1_2 ++ (tables_1_3 ++ tables_1_4)) from (List.mem_append_right _ (List.mem_append_left _ (List.mem_of_getElem? (i := 106) rfl))))) rfl
set_option maxRecDepth 20000 in
theorem mw_15 : (Cond.methodLink R_Row 20 Lib.Math.min.name) ∈ AW := inAW (List.mem_append_right _ (show _ ∈ tables_1_1 ++ (tables_1_2 ++ (tables_1_3 ++ tables_1_4)) from (List.mem_append_right _ (List.mem_append_left _ (List.mem_of_getElem? (i := 107) rfl))))) rfl
set_option maxRecDepth 20000 in
theorem mw_16 : (Cond.code y_Arr_copyOf b_Arr_copyOf 3 (some (.array .int))) ∈ AW := inAW (List.mem_append_right _ (show _ ∈ tables_1_1 ++ (tables_1_2 ++ (tables_1_3 ++ tables_1_4)) from (List.mem_append_right _ (List.mem_append_left _ (List.mem_of_getElem? (i := 112) rfl))))) rfl
set_option maxRecDepth 20000 in
theorem mw_17 : (Cond.initialized R_Arr) ∈ AW := inAW (List.mem_append_right _ (show _ ∈ tables_1_1 ++ (tables_1_2 ++ (tables_1_3 ++ tables_1_4)) from (List.mem_append_left _ (List.mem_of_getElem? (i := 18) rfl)))) rfl
set_option maxRecDepth 20000 in
theorem mw_18 : (Cond.methodLink R_Row 26 y_Arr_copyOf) ∈ AW := inAW (List.mem_append_right _ (show _ ∈ tables_1_1 ++ (tables_1_2 ++ (tables_1_3 ++ tables_1_4)) from (List.mem_append_right _ (List.mem_append_left _ (List.mem_of_getElem? (i := 110) rfl))))) rfl
set_option maxRecDepth 20000 in
theorem mw_19 : (Cond.static y_Arr_copyOf) ∈ AW := inAW (List.mem_append_right _ (show _ ∈ tables_1_1 ++ (tables_1_2 ++ (tables_1_3 ++ tables_1_4)) from (List.mem_append_right _ (List.mem_append_left _ (List.mem_of_getElem? (i := 111) rfl))))) rfl
def wo_Arr_copyOf (k : gK) (h1 : Nat) (n : Nat) (f : Nat → Int32) (x : Int32) (mm : Nat) (zz : Unit) (uu : Unit) (ra : Nat) : va_W := match zz, uu with
  | _, _ => [(h1, .inl (k.1, n, .inl f)), (ra, .inl (k.1, mm, .inl (va_cpy f (fun _ => 0) 0 0 n)))]
def ex_Arr_copyOf (k : gK) (h1 : Nat) (n : Nat) (f : Nat → Int32) (x : Int32) (mm : Nat) (zz : Unit) (uu : Unit) : Prop := match zz, uu with
  | _, _ => True
def po_Arr_copyOf (k : gK) (h1 : Nat) (n : Nat) (f : Nat → Int32) (x : Int32) (mm : Nat) (uu : Unit) : Prop := match uu with
  | _ => True
def qc_Arr_copyOf (D : va_G) (k : gK) (h1 : Nat) (n : Nat) (f : Nat → Int32) (x : Int32) (mm : Nat) (A : Nat → Prop) : Array Value → State → Outcome → State → Prop := va_Qr (po_Arr_copyOf k h1 n f x mm) (fun uu ra t => ∃ zz, ex_Arr_copyOf k h1 n f x mm zz uu ∧ GP D A (wo_Arr_copyOf k h1 n f x mm zz uu ra) t) A
set_option maxHeartbeats 1000000 in
set_option maxRecDepth 100000 in
theorem c_Arr_copyOf (l : Launch) (hl9 : l.stackTraces = false) (D : va_G) (k : gK) (h1 : Nat) (zsz : Nat) (n : Nat) (f : Nat → Int32) (x : Int32) (mm : Nat) (hxm : x = nI mm) (hnm : n < mm) (hmm : mm ≤ 65536) : Met l y_Arr_copyOf (.code y_Arr_copyOf b_Arr_copyOf 3 (some (.array .int)) :: AW) ({ frames := 1, cells := 1, slots := mm, locals := 60 }) (va_Pc [.ref h1, .int x] (GG D k [(h1, .inl (k.1, n, .inl f))] zsz)) (qc_Arr_copyOf D k h1 n f x mm (va_A [(h1, .inl (k.1, n, .inl f))] zsz)) 1 mm (va_A [(h1, .inl (k.1, n, .inl f))] zsz) := by
  refine kMet (ws := [(h1, .inl (k.1, n, .inl f))]) (Qc := qc_Arr_copyOf D k h1 n f x mm) (by decide) (Nat.le_of_ble_eq_true rfl) (fun p e s m below meth c ls A H Cc hP hD hA hS hl => ?_)
  obtain ⟨hx, hb, hml, hr, hlk, hown, hts, hK, hE, hin⟩ := Cc
  have hl : lv_has ls 3 [(0, .ref h1), (1, .int x)] := hl
  refine lv_iload_n hx hb d_Arr_copyOf_0 rfl (lv_at hl 1 rfl) ?_
  refine lv_aload_n hx hb d_Arr_copyOf_1 rfl (lv_at hl 0 rfl) ?_
  refine va_alen (v := nI n) hx hb hK hP 0 0 rfl rfl rfl d_Arr_copyOf_2 ?_
  refine lv_icmp_ne (tgt := 14) hx hb d_Arr_copyOf_3 (by decide) (fun c1 => ?_) (fun c1 => ?_)
  · refine lv_iload_n hx hb d_Arr_copyOf_14 rfl (lv_at hl 1 rfl) ?_
    refine va_newa (atype := .int) (ty := .int) (N' := mm) (a0 := (mm, .inl (fun _ => 0))) hx hb (hts (.arrayClass .int) mw_5) rfl hK hP hD hS hA (ha_int mm) (by rw [hxm]; exact nI_pos (by omega)) (by rw [hxm]; exact nI_clamp (by omega)) (by show mm * 4 ≤ 536870912; omega) (by first | omega | (dsimp only; omega)) (by first | omega | (dsimp only; omega)) d_Arr_copyOf_15 (fun q2 cA H hK1 hP hD hS => ?_)
    have ecA := newa_int hK1
    subst ecA
    have hP : va_P D vwCl [(h1, .inl (k.1, n, .inl f)), (q2, .inl (k.1, mm, .inl (fun _ => 0)))] H := hP
    have hD : va_D A [(h1, .inl (k.1, n, .inl f)), (q2, .inl (k.1, mm, .inl (fun _ => 0)))] := hD
    refine lv_astore_n (lv' := [(2, .ref q2), (0, .ref h1), (1, .int x)]) hx hb d_Arr_copyOf_17 rfl hl (by decide) rfl (fun ls hl => ?_)
    refine lv_aload_n hx hb d_Arr_copyOf_18 rfl (lv_at hl 1 rfl) ?_
    refine lv_iconst (v := 0) hx hb d_Arr_copyOf_19 (by decide) ?_
    refine lv_aload_n hx hb d_Arr_copyOf_20 rfl (lv_at hl 0 rfl) ?_
    refine lv_iconst (v := 0) hx hb d_Arr_copyOf_21 (by decide) ?_
    refine lv_aload_n hx hb d_Arr_copyOf_22 rfl (lv_at hl 1 rfl) ?_
    refine va_alen (v := nI n) hx hb hK hP 0 0 rfl rfl rfl d_Arr_copyOf_23 ?_
    refine lv_iload_n hx hb d_Arr_copyOf_24 rfl (lv_at hl 2 rfl) ?_
    refine va_mmin hx hb (hml.trans hl.1.symm) hown (hts (.methodLink R_Arr 304 Lib.Math.min.name) mw_6) (hts (.static Lib.Math.min.name) mw_7) (hts (.initialized "java/lang/Math") mw_8) (hts (.code Lib.Math.min.name Lib.Math.min.code 2 (some .int)) mw_9) (Nat.le_of_ble_eq_true rfl) (Nat.le_of_ble_eq_true rfl) (by first | omega | (dsimp only; omega)) (by first | omega | (dsimp only; omega)) d_Arr_copyOf_25 ?_
    rw [show (if x < (nI n) then x else (nI n)) = nI n from (by rw [hxm]; exact if_neg (nI_nlt (by omega) (by omega)))]
    refine va_copyi hx hb (hml.trans hl.1.symm) hown (hts (.methodLink R_Arr 150 arraycopyName) mw_10) (hts (.native arraycopyName) mw_11) (hts (.static arraycopyName) mw_12) (hts (.initialized "java/lang/System") mw_13) hK hP hD hS 0 1 0 0 rfl rfl rfl rfl rfl (by decide) (by decide) (nI_pos (by omega)) (by rw [nI_clamp (n := n) (by omega)]; simp) (by rw [nI_clamp (n := n) (by omega)]; simp; omega) (fun _ _ => rfl) (Nat.le_of_ble_eq_true rfl) (Nat.le_of_ble_eq_true rfl) d_Arr_copyOf_28 (fun H locs hP hD hS => ?_)
    rw [show (0 : Int32).toNatClampNeg = 0 from rfl, nI_clamp (n := n) (by omega)] at hP hD
    have hP : va_P D vwCl [(h1, .inl (k.1, n, .inl f)), (q2, .inl (k.1, mm, .inl (va_cpy f (fun _ => 0) 0 0 n)))] H := hP
    have hD : va_D A [(h1, .inl (k.1, n, .inl f)), (q2, .inl (k.1, mm, .inl (va_cpy f (fun _ => 0) 0 0 n)))] := hD
    refine lv_aload_n hx hb d_Arr_copyOf_31 rfl (lv_at hl 0 rfl) ?_
    exact kra (wo := wo_Arr_copyOf k h1 n f x mm) hx hb hr (Or.inr ⟨_, rfl⟩) hlk hP hD hS () () trivial trivial [0, 1] rfl (by decide) (by first | omega | (dsimp only; omega)) (by first | omega | (dsimp only; omega)) d_Arr_copyOf_32
  · exact absurd c1 (by rw [hxm]; exact fun q => absurd ((nI_eq (by omega) (by omega)).mp q) (by omega))

def wo_Row_append (k : gK) (h0 h1 : Nat) (n : Nat) (f : Nat → Int32) (u : Int32) (L : List Int32) (b : Int32) (zz : Nat × (Nat → Int32) × Int32) (uu : Nat × List Int32) : va_W := match zz, uu with
  | (q2, f2, u2), (n2, L2) => [(h0, .inr (0, [.ref q2, .int u2])), (q2, .inl (k.1, n2, .inl f2))]
def ex_Row_append (k : gK) (h0 h1 : Nat) (n : Nat) (f : Nat → Int32) (u : Int32) (L : List Int32) (b : Int32) (zz : Nat × (Nat → Int32) × Int32) (uu : Nat × List Int32) : Prop := match zz, uu with
  | (q2, f2, u2), (n2, L2) => row_ok n2 f2 u2 L2
def po_Row_append (k : gK) (h0 h1 : Nat) (n : Nat) (f : Nat → Int32) (u : Int32) (L : List Int32) (b : Int32) (uu : Nat × List Int32) : Prop := match uu with
  | (n2, L2) => n2 = apn n L ∧ L2 = app L b
def qc_Row_append (D : va_G) (k : gK) (h0 h1 : Nat) (n : Nat) (f : Nat → Int32) (u : Int32) (L : List Int32) (b : Int32) (A : Nat → Prop) : Array Value → State → Outcome → State → Prop := va_Qv (po_Row_append k h0 h1 n f u L b) (fun uu t => ∃ zz, ex_Row_append k h0 h1 n f u L b zz uu ∧ GP D A (wo_Row_append k h0 h1 n f u L b zz uu) t) A
set_option maxHeartbeats 1000000 in
set_option maxRecDepth 100000 in
theorem c_Row_append (l : Launch) (hl9 : l.stackTraces = false) (D : va_G) (k : gK) (h0 h1 : Nat) (zsz : Nat) (n : Nat) (f : Nat → Int32) (u : Int32) (L : List Int32) (b : Int32) (hR : row_ok n f u L) : Met l y_Row_append (.code y_Row_append b_Row_append 2 none :: AW) ({ frames := 2, cells := apn n L - n, slots := 2 * (apn n L - n), locals := 82 }) (va_Pc [.ref h0, .int b] (GG D k [(h0, .inr (0, [.ref h1, .int u])), (h1, .inl (k.1, n, .inl f))] zsz)) (qc_Row_append D k h0 h1 n f u L b (va_A [(h0, .inr (0, [.ref h1, .int u])), (h1, .inl (k.1, n, .inl f))] zsz)) (apn n L - n) (2 * (apn n L - n)) (va_A [(h0, .inr (0, [.ref h1, .int u])), (h1, .inl (k.1, n, .inl f))] zsz) := by
  refine kMet (ws := [(h0, .inr (0, [.ref h1, .int u])), (h1, .inl (k.1, n, .inl f))]) (Qc := qc_Row_append D k h0 h1 n f u L b) (by decide) (Nat.le_of_ble_eq_true rfl) (fun p e s m below meth c ls A H Cc hP hD hA hS hl => ?_)
  obtain ⟨hx, hb, hml, hr, hlk, hown, hts, hK, hE, hin⟩ := Cc
  have hl : lv_has ls 2 [(0, .ref h0), (1, .int b)] := hl
  refine lv_aload_n hx hb d_Row_append_0 rfl (lv_at hl 0 rfl) ?_
  refine va_get (D := D) (ci := 0) (v := .int u) (C := R_Row) (T := T_Row) (N := 2) hx hb hts inw_Row hown hK hP 0 rfl rfl 1 (by decide) (hts (.fieldLink R_Row 15 "LikelyBits$Row" "used" "I") mw_0) (fun _ h9 => h9) rfl d_Row_append_1 ?_
  refine lv_aload_n hx hb d_Row_append_4 rfl (lv_at hl 0 rfl) ?_
  refine va_get (D := D) (ci := 0) (v := .ref h1) (C := R_Row) (T := T_Row) (N := 2) hx hb hts inw_Row hown hK hP 0 rfl rfl 0 (by decide) (hts (.fieldLink R_Row 11 "LikelyBits$Row" "cells" "[I") mw_1) (fun _ h9 => h9) rfl d_Row_append_5 ?_
  refine va_alen (v := nI n) hx hb hK hP 1 0 rfl rfl rfl d_Row_append_8 ?_
  refine lv_icmp_lt (tgt := 45) hx hb d_Row_append_9 (by decide) (fun c1 => ?_) (fun c1 => ?_)
  · refine lv_aload_n hx hb d_Row_append_45 rfl (lv_at hl 0 rfl) ?_
    refine va_get (D := D) (ci := 0) (v := .int u) (C := R_Row) (T := T_Row) (N := 2) hx hb hts inw_Row hown hK hP 0 rfl rfl 1 (by decide) (hts (.fieldLink R_Row 15 "LikelyBits$Row" "used" "I") mw_0) (fun _ h9 => h9) rfl d_Row_append_46 ?_
    refine lv_if_lt (tgt := 84) hx hb d_Row_append_49 (by decide) (fun c2 => ?_) (fun c2 => ?_)
    · exact absurd c2 (row_neg hR)
    · refine lv_aload_n hx hb d_Row_append_52 rfl (lv_at hl 0 rfl) ?_
      refine va_get (D := D) (ci := 0) (v := .int u) (C := R_Row) (T := T_Row) (N := 2) hx hb hts inw_Row hown hK hP 0 rfl rfl 1 (by decide) (hts (.fieldLink R_Row 15 "LikelyBits$Row" "used" "I") mw_0) (fun _ h9 => h9) rfl d_Row_append_53 ?_
      refine lv_aload_n hx hb d_Row_append_56 rfl (lv_at hl 0 rfl) ?_
      refine va_get (D := D) (ci := 0) (v := .ref h1) (C := R_Row) (T := T_Row) (N := 2) hx hb hts inw_Row hown hK hP 0 rfl rfl 0 (by decide) (hts (.fieldLink R_Row 11 "LikelyBits$Row" "cells" "[I") mw_1) (fun _ h9 => h9) rfl d_Row_append_57 ?_
      refine va_alen (v := nI n) hx hb hK hP 1 0 rfl rfl rfl d_Row_append_60 ?_
      refine lv_icmp_ge (tgt := 84) hx hb d_Row_append_61 (by decide) (fun c3 => ?_) (fun c3 => ?_)
      · exact (lt_le32 c1 c3).elim
      · refine lv_aload_n hx hb d_Row_append_64 rfl (lv_at hl 0 rfl) ?_
        refine va_get (D := D) (ci := 0) (v := .ref h1) (C := R_Row) (T := T_Row) (N := 2) hx hb hts inw_Row hown hK hP 0 rfl rfl 0 (by decide) (hts (.fieldLink R_Row 11 "LikelyBits$Row" "cells" "[I") mw_1) (fun _ h9 => h9) rfl d_Row_append_65 ?_
        refine lv_aload_n hx hb d_Row_append_68 rfl (lv_at hl 0 rfl) ?_
        refine va_get (D := D) (ci := 0) (v := .int u) (C := R_Row) (T := T_Row) (N := 2) hx hb hts inw_Row hown hK hP 0 rfl rfl 1 (by decide) (hts (.fieldLink R_Row 15 "LikelyBits$Row" "used" "I") mw_0) (fun _ h9 => h9) rfl d_Row_append_69 ?_
        refine lv_iload_n hx hb d_Row_append_72 rfl (lv_at hl 1 rfl) ?_
        refine va_iast hx hb hK hP hD hS 1 0 rfl rfl (ix_in (by have := row_le hR; omega) (row_neg hR) c3) d_Row_append_73 (fun H locs hP hD hS => ?_)
        have hP : va_P D vwCl [(h0, .inr (0, [.ref h1, .int u])), (h1, .inl (k.1, n, .inl (upd f u.toNatClampNeg b)))] H := hP
        have hD : va_D A [(h0, .inr (0, [.ref h1, .int u])), (h1, .inl (k.1, n, .inl (upd f u.toNatClampNeg b)))] := hD
        refine lv_aload_n hx hb d_Row_append_74 rfl (lv_at hl 0 rfl) ?_
        refine lv_dup hx hb d_Row_append_75 rfl ?_
        refine va_get (D := D) (ci := 0) (v := .int u) (C := R_Row) (T := T_Row) (N := 2) hx hb hts inw_Row hown hK hP 0 rfl rfl 1 (by decide) (hts (.fieldLink R_Row 15 "LikelyBits$Row" "used" "I") mw_0) (fun _ h9 => h9) rfl d_Row_append_76 ?_
        refine lv_iconst (v := 1) hx hb d_Row_append_79 (by decide) ?_
        refine lv_iadd hx hb d_Row_append_80 ?_
        refine lv_topi (fun x4 ex4 => ?_)
        refine va_put (D := D) (ci := 0) (v := .int x4) (ty := .int) (C := R_Row) (T := T_Row) (N := 2) hx hb hts inw_Row ty_Row tyok_Row nm_Row hown hK hP hD hS 0 rfl rfl 1 (by decide) (hts (.fieldLink R_Row 15 "LikelyBits$Row" "used" "I") mw_0) (fun _ h9 => h9) rfl (by decide +kernel) rfl rfl (Nat.le_of_ble_eq_true rfl) d_Row_append_81 (fun H locs hP hD hS => ?_)
        have hP : va_P D vwCl [(h0, .inr (0, [.ref h1, .int x4])), (h1, .inl (k.1, n, .inl (upd f u.toNatClampNeg b)))] H := hP
        have hD : va_D A [(h0, .inr (0, [.ref h1, .int x4])), (h1, .inl (k.1, n, .inl (upd f u.toNatClampNeg b)))] := hD
        exact krv (wo := wo_Row_append k h0 h1 n f u L b) hx hb hr hlk hP hD hS (n, app L b) (h1, upd f u.toNatClampNeg b, x4) ⟨apn_lt hR c1, rfl⟩ (by rw [ex4]; exact app_ok hR c3) [0, 1] rfl (by decide) (by first | omega | (dsimp only; omega)) (by first | omega | (dsimp only; omega)) d_Row_append_84
  · refine lv_aload_n hx hb d_Row_append_12 rfl (lv_at hl 0 rfl) ?_
    refine va_get (D := D) (ci := 0) (v := .ref h1) (C := R_Row) (T := T_Row) (N := 2) hx hb hts inw_Row hown hK hP 0 rfl rfl 0 (by decide) (hts (.fieldLink R_Row 11 "LikelyBits$Row" "cells" "[I") mw_1) (fun _ h9 => h9) rfl d_Row_append_13 ?_
    refine va_alen (v := nI n) hx hb hK hP 1 0 rfl rfl rfl d_Row_append_16 ?_
    refine lv_ldc (v := 65536) hx hb hown (hts (.constant R_Row 19 65536) mw_14) d_Row_append_17 ?_
    refine lv_icmp_ge (tgt := 45) hx hb d_Row_append_19 (by decide) (fun c5 => ?_) (fun c5 => ?_)
    · refine lv_aload_n hx hb d_Row_append_45 rfl (lv_at hl 0 rfl) ?_
      refine va_get (D := D) (ci := 0) (v := .int u) (C := R_Row) (T := T_Row) (N := 2) hx hb hts inw_Row hown hK hP 0 rfl rfl 1 (by decide) (hts (.fieldLink R_Row 15 "LikelyBits$Row" "used" "I") mw_0) (fun _ h9 => h9) rfl d_Row_append_46 ?_
      refine lv_if_lt (tgt := 84) hx hb d_Row_append_49 (by decide) (fun c6 => ?_) (fun c6 => ?_)
      · exact absurd c6 (row_neg hR)
      · refine lv_aload_n hx hb d_Row_append_52 rfl (lv_at hl 0 rfl) ?_
        refine va_get (D := D) (ci := 0) (v := .int u) (C := R_Row) (T := T_Row) (N := 2) hx hb hts inw_Row hown hK hP 0 rfl rfl 1 (by decide) (hts (.fieldLink R_Row 15 "LikelyBits$Row" "used" "I") mw_0) (fun _ h9 => h9) rfl d_Row_append_53 ?_
        refine lv_aload_n hx hb d_Row_append_56 rfl (lv_at hl 0 rfl) ?_
        refine va_get (D := D) (ci := 0) (v := .ref h1) (C := R_Row) (T := T_Row) (N := 2) hx hb hts inw_Row hown hK hP 0 rfl rfl 0 (by decide) (hts (.fieldLink R_Row 11 "LikelyBits$Row" "cells" "[I") mw_1) (fun _ h9 => h9) rfl d_Row_append_57 ?_
        refine va_alen (v := nI n) hx hb hK hP 1 0 rfl rfl rfl d_Row_append_60 ?_
        refine lv_icmp_ge (tgt := 84) hx hb d_Row_append_61 (by decide) (fun c7 => ?_) (fun c7 => ?_)
        · exact krv (wo := wo_Row_append k h0 h1 n f u L b) hx hb hr hlk hP hD hS (n, L) (h1, f, u) ⟨apn_full hR c1 c5, app_full hR c1 c5⟩ hR [0, 1] rfl (by decide) (by first | omega | (dsimp only; omega)) (by first | omega | (dsimp only; omega)) d_Row_append_84
        · exact (c7 (Int32.not_lt.mp c1)).elim
    · refine lv_aload_n hx hb d_Row_append_22 rfl (lv_at hl 0 rfl) ?_
      refine lv_aload_n hx hb d_Row_append_23 rfl (lv_at hl 0 rfl) ?_
      refine va_get (D := D) (ci := 0) (v := .ref h1) (C := R_Row) (T := T_Row) (N := 2) hx hb hts inw_Row hown hK hP 0 rfl rfl 0 (by decide) (hts (.fieldLink R_Row 11 "LikelyBits$Row" "cells" "[I") mw_1) (fun _ h9 => h9) rfl d_Row_append_24 ?_
      refine lv_ldc (v := 65536) hx hb hown (hts (.constant R_Row 19 65536) mw_14) d_Row_append_27 ?_
      refine lv_iconst (v := 2) hx hb d_Row_append_29 (by decide) ?_
      refine lv_aload_n hx hb d_Row_append_30 rfl (lv_at hl 0 rfl) ?_
      refine va_get (D := D) (ci := 0) (v := .ref h1) (C := R_Row) (T := T_Row) (N := 2) hx hb hts inw_Row hown hK hP 0 rfl rfl 0 (by decide) (hts (.fieldLink R_Row 11 "LikelyBits$Row" "cells" "[I") mw_1) (fun _ h9 => h9) rfl d_Row_append_31 ?_
      refine va_alen (v := nI n) hx hb hK hP 1 0 rfl rfl rfl d_Row_append_34 ?_
      refine lv_imul hx hb d_Row_append_35 ?_
      have eg := apn_grow hR c1 c5
      have h256 := hR.2.2.1
      refine va_mmin hx hb (hml.trans hl.1.symm) hown (hts (.methodLink R_Row 20 Lib.Math.min.name) mw_15) (hts (.static Lib.Math.min.name) mw_7) (hts (.initialized "java/lang/Math") mw_8) (hts (.code Lib.Math.min.name Lib.Math.min.code 2 (some .int)) mw_9) (Nat.le_of_ble_eq_true rfl) (Nat.le_of_ble_eq_true rfl) (by first | omega | (dsimp only; omega)) (by first | omega | (dsimp only; omega)) d_Row_append_36 ?_
      rw [show (if (2 * (nI n)) < 65536 then (2 * (nI n)) else 65536) = nI (2 * n) from (min_grow (by omega))]
      refine kca (wc := [(h1, .inl (k.1, n, .inl f))]) (wr := [(h0, .inr (0, [.ref h1, .int u]))]) (va_runS (As := [.ref h1, .int (nI (2 * n))]) (rest := [.ref h0]) ⟨hx, hb, hml, hown, hts⟩ (c_Arr_copyOf l hl9 D k h1 H.size n f (nI (2 * n)) (2 * n) rfl (by omega) (by omega)) ⟨callB_of 2 hts (gI mw_16) rfl rfl rfl (hts (.initialized R_Arr) mw_17) (hts (.methodLink R_Row 26 y_Arr_copyOf) mw_18) (by decide +kernel) ⟨(Nat.le_of_ble_eq_true rfl), (Nat.le_of_ble_eq_true rfl)⟩, (hts (.static y_Arr_copyOf) mw_19)⟩ (kPre (wc := [(h1, .inl (k.1, n, .inl f))]) hE hK hP hD hS hA [1] rfl (by decide)) rfl rfl hl.1 rfl (lv_room (Nat.le_of_ble_eq_true rfl)) d_Row_append_39 ⟨(by first | omega | (dsimp only; omega)), (by first | omega | (dsimp only; omega))⟩) hP hD hS hA [1] [0] rfl rfl (by decide) (by decide) (fun r8 zz uu H locs hw9 hz10 hP hD hS => ?_)
      have hw9 : True := hw9
      have hP : va_P D vwCl [(h0, .inr (0, [.ref h1, .int u])), (h1, .inl (k.1, n, .inl f)), (r8, .inl (k.1, (2 * n), .inl (va_cpy f (fun _ => 0) 0 0 n)))] H := hP
      have hD : va_D A [(h0, .inr (0, [.ref h1, .int u])), (h1, .inl (k.1, n, .inl f)), (r8, .inl (k.1, (2 * n), .inl (va_cpy f (fun _ => 0) 0 0 n)))] := hD
      have hR2 := row_wide hR (Int32.not_lt.mp c1) eg.2.1
      refine va_put (D := D) (ci := 0) (v := .ref r8) (ty := .array .int) (C := R_Row) (T := T_Row) (N := 2) hx hb hts inw_Row ty_Row tyok_Row nm_Row hown hK hP hD hS 0 rfl rfl 0 (by decide) (hts (.fieldLink R_Row 11 "LikelyBits$Row" "cells" "[I") mw_1) (fun _ h9 => h9) rfl (by decide +kernel) rfl rfl (Nat.le_of_ble_eq_true rfl) d_Row_append_42 (fun H locs hP hD hS => ?_)
      have hP : va_P D vwCl [(h0, .inr (0, [.ref r8, .int u])), (h1, .inl (k.1, n, .inl f)), (r8, .inl (k.1, (2 * n), .inl (va_cpy f (fun _ => 0) 0 0 n)))] H := hP
      have hD : va_D A [(h0, .inr (0, [.ref r8, .int u])), (h1, .inl (k.1, n, .inl f)), (r8, .inl (k.1, (2 * n), .inl (va_cpy f (fun _ => 0) 0 0 n)))] := hD
      refine lv_aload_n hx hb d_Row_append_45 rfl (lv_at hl 0 rfl) ?_
      refine va_get (D := D) (ci := 0) (v := .int u) (C := R_Row) (T := T_Row) (N := 2) hx hb hts inw_Row hown hK hP 0 rfl rfl 1 (by decide) (hts (.fieldLink R_Row 15 "LikelyBits$Row" "used" "I") mw_0) (fun _ h9 => h9) rfl d_Row_append_46 ?_
      refine lv_if_lt (tgt := 84) hx hb d_Row_append_49 (by decide) (fun c11 => ?_) (fun c11 => ?_)
      · exact absurd c11 (row_neg hR)
      · refine lv_aload_n hx hb d_Row_append_52 rfl (lv_at hl 0 rfl) ?_
        refine va_get (D := D) (ci := 0) (v := .int u) (C := R_Row) (T := T_Row) (N := 2) hx hb hts inw_Row hown hK hP 0 rfl rfl 1 (by decide) (hts (.fieldLink R_Row 15 "LikelyBits$Row" "used" "I") mw_0) (fun _ h9 => h9) rfl d_Row_append_53 ?_
        refine lv_aload_n hx hb d_Row_append_56 rfl (lv_at hl 0 rfl) ?_
        refine va_get (D := D) (ci := 0) (v := .ref r8) (C := R_Row) (T := T_Row) (N := 2) hx hb hts inw_Row hown hK hP 0 rfl rfl 0 (by decide) (hts (.fieldLink R_Row 11 "LikelyBits$Row" "cells" "[I") mw_1) (fun _ h9 => h9) rfl d_Row_append_57 ?_
        refine va_alen (v := nI (2 * n)) hx hb hK hP 2 0 rfl rfl rfl d_Row_append_60 ?_
        refine lv_icmp_ge (tgt := 84) hx hb d_Row_append_61 (by decide) (fun c12 => ?_) (fun c12 => ?_)
        · exact (wide_in hR eg.2.1 c12).elim
        · refine lv_aload_n hx hb d_Row_append_64 rfl (lv_at hl 0 rfl) ?_
          refine va_get (D := D) (ci := 0) (v := .ref r8) (C := R_Row) (T := T_Row) (N := 2) hx hb hts inw_Row hown hK hP 0 rfl rfl 0 (by decide) (hts (.fieldLink R_Row 11 "LikelyBits$Row" "cells" "[I") mw_1) (fun _ h9 => h9) rfl d_Row_append_65 ?_
          refine lv_aload_n hx hb d_Row_append_68 rfl (lv_at hl 0 rfl) ?_
          refine va_get (D := D) (ci := 0) (v := .int u) (C := R_Row) (T := T_Row) (N := 2) hx hb hts inw_Row hown hK hP 0 rfl rfl 1 (by decide) (hts (.fieldLink R_Row 15 "LikelyBits$Row" "used" "I") mw_0) (fun _ h9 => h9) rfl d_Row_append_69 ?_
          refine lv_iload_n hx hb d_Row_append_72 rfl (lv_at hl 1 rfl) ?_
          refine va_iast hx hb hK hP hD hS 2 0 rfl rfl (ix_in (by have := row_le hR; omega) (row_neg hR) c12) d_Row_append_73 (fun H locs hP hD hS => ?_)
          have hP : va_P D vwCl [(h0, .inr (0, [.ref r8, .int u])), (h1, .inl (k.1, n, .inl f)), (r8, .inl (k.1, (2 * n), .inl (upd (va_cpy f (fun _ => 0) 0 0 n) u.toNatClampNeg b)))] H := hP
          have hD : va_D A [(h0, .inr (0, [.ref r8, .int u])), (h1, .inl (k.1, n, .inl f)), (r8, .inl (k.1, (2 * n), .inl (upd (va_cpy f (fun _ => 0) 0 0 n) u.toNatClampNeg b)))] := hD
          refine lv_aload_n hx hb d_Row_append_74 rfl (lv_at hl 0 rfl) ?_
          refine lv_dup hx hb d_Row_append_75 rfl ?_
          refine va_get (D := D) (ci := 0) (v := .int u) (C := R_Row) (T := T_Row) (N := 2) hx hb hts inw_Row hown hK hP 0 rfl rfl 1 (by decide) (hts (.fieldLink R_Row 15 "LikelyBits$Row" "used" "I") mw_0) (fun _ h9 => h9) rfl d_Row_append_76 ?_
          refine lv_iconst (v := 1) hx hb d_Row_append_79 (by decide) ?_
          refine lv_iadd hx hb d_Row_append_80 ?_
          refine lv_topi (fun x13 ex13 => ?_)
          refine va_put (D := D) (ci := 0) (v := .int x13) (ty := .int) (C := R_Row) (T := T_Row) (N := 2) hx hb hts inw_Row ty_Row tyok_Row nm_Row hown hK hP hD hS 0 rfl rfl 1 (by decide) (hts (.fieldLink R_Row 15 "LikelyBits$Row" "used" "I") mw_0) (fun _ h9 => h9) rfl (by decide +kernel) rfl rfl (Nat.le_of_ble_eq_true rfl) d_Row_append_81 (fun H locs hP hD hS => ?_)
          have hP : va_P D vwCl [(h0, .inr (0, [.ref r8, .int x13])), (h1, .inl (k.1, n, .inl f)), (r8, .inl (k.1, (2 * n), .inl (upd (va_cpy f (fun _ => 0) 0 0 n) u.toNatClampNeg b)))] H := hP
          have hD : va_D A [(h0, .inr (0, [.ref r8, .int x13])), (h1, .inl (k.1, n, .inl f)), (r8, .inl (k.1, (2 * n), .inl (upd (va_cpy f (fun _ => 0) 0 0 n) u.toNatClampNeg b)))] := hD
          exact krv (wo := wo_Row_append k h0 h1 n f u L b) hx hb hr hlk hP hD hS ((2 * n), app L b) (r8, upd (va_cpy f (fun _ => 0) 0 0 n) u.toNatClampNeg b, x13) ⟨eg.1, rfl⟩ (by rw [ex13]; exact app_ok hR2 c12) [0, 2] rfl (by decide) (by first | omega | (dsimp only; omega)) (by first | omega | (dsimp only; omega)) d_Row_append_84

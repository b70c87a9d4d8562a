set_option maxRecDepth 20000 in
theorem mw_2 : (Cond.methodLink R_Row 3 objectInit) ∈ AW := inAW (List.mem_append_right _ (show _ ∈ tables_1_1 ++ (tables_1_2 ++ (tables_1_3 ++ tables_1_4)) from (List.mem_append_left _ (List.mem_of_getElem? (i := 34) rfl)))) rfl
set_option maxRecDepth 20000 in
theorem mw_3 : (Cond.instanceMethod objectInit) ∈ AW := inAW (List.mem_append_right _ (show _ ∈ tables_1_1 ++ (tables_1_2 ++ (tables_1_3 ++ tables_1_4)) from (List.mem_append_left _ (List.mem_of_getElem? (i := 27) rfl)))) rfl
set_option maxRecDepth 20000 in
theorem mw_4 : (Cond.code objectInit ⟨#[0xb1]⟩ 1 none) ∈ AW := inAW (List.mem_append_right _ (show _ ∈ tables_1_1 ++ (tables_1_2 ++ (tables_1_3 ++ tables_1_4)) from (List.mem_append_left _ (List.mem_of_getElem? (i := 28) rfl)))) rfl
set_option maxRecDepth 20000 in
theorem mw_5 : (Cond.arrayClass .int) ∈ AW := inAW (List.mem_append_right _ (show _ ∈ tables_1_1 ++ (tables_1_2 ++ (tables_1_3 ++ tables_1_4)) from (List.mem_append_left _ (List.mem_of_getElem? (i := 42) rfl)))) rfl
def wo_Row_init (k : gK) (h0 : Nat) (zz : Nat) (uu : Unit) : va_W := match zz, uu with
  | q2, _ => [(h0, .inr (0, [.ref q2, .int 0])), (q2, .inl (k.1, 256, .inl (fun _ => 0)))]
def ex_Row_init (k : gK) (h0 : Nat) (zz : Nat) (uu : Unit) : Prop := match zz, uu with
  | q2, _ => True
def po_Row_init (k : gK) (h0 : Nat) (uu : Unit) : Prop := match uu with
  | _ => True
def qc_Row_init (D : va_G) (k : gK) (h0 : Nat) (A : Nat → Prop) : Array Value → State → Outcome → State → Prop := va_Qv (po_Row_init k h0) (fun uu t => ∃ zz, ex_Row_init k h0 zz uu ∧ GP D A (wo_Row_init k h0 zz uu) t) A
set_option maxHeartbeats 1000000 in
set_option maxRecDepth 100000 in
theorem c_Row_init (l : Launch) (hl9 : l.stackTraces = false) (D : va_G) (k : gK) (h0 : Nat) (zsz : Nat)  : Met l y_Row_init (.code y_Row_init b_Row_init 1 none :: AW) ({ frames := 1, cells := 1, slots := 256, locals := 22 }) (va_Pc [.ref h0] (GG D k [(h0, .inr (0, [.null, .int 0]))] zsz)) (qc_Row_init D k h0 (va_A [(h0, .inr (0, [.null, .int 0]))] zsz)) 1 256 (va_A [(h0, .inr (0, [.null, .int 0]))] zsz) := by
  refine kMet (ws := [(h0, .inr (0, [.null, .int 0]))]) (Qc := qc_Row_init D k h0) (by decide) (Nat.le_of_ble_eq_true rfl) (fun p e s m below meth c ls A H Cc hP hD hA hS hl => ?_)
  obtain ⟨hx, hb, hml, hr, hlk, hown, hts, hK, hE, hin⟩ := Cc
  have hl : lv_has ls 1 [(0, .ref h0)] := hl
  refine lv_aload_n hx hb d_Row_init_0 rfl (lv_at hl 0 rfl) ?_
  refine W.objInit hx hb hown (hts (.methodLink R_Row 3 objectInit) mw_2) (hts (.instanceMethod objectInit) mw_3) (hts (.code objectInit ⟨#[0xb1]⟩ 1 none) mw_4) rfl (by rw [hml]; exact hl.1) rfl d_Row_init_1 (Nat.le_of_ble_eq_true rfl) (Nat.le_of_ble_eq_true rfl) ?_
  refine W.eq (g2 := F0 m 4 ls []) rfl ?_
  refine lv_aload_n hx hb d_Row_init_4 rfl (lv_at hl 0 rfl) ?_
  refine lv_sipush (v := 256) hx hb d_Row_init_5 (by decide) ?_
  refine va_newa (atype := .int) (ty := .int) (N' := 256) (a0 := (256, .inl (fun _ => 0))) hx hb (hts (.arrayClass .int) mw_5) rfl hK hP hD hS hA (ha_int 256) (by decide +kernel) (by decide +kernel) (by decide +kernel) (by first | omega | (dsimp only; omega)) (by first | omega | (dsimp only; omega)) d_Row_init_8 (fun q1 cA H hK1 hP hD hS => ?_)
  have ecA := newa_int hK1
  subst ecA
  have hP : va_P D vwCl [(h0, .inr (0, [.null, .int 0])), (q1, .inl (k.1, 256, .inl (fun _ => 0)))] H := hP
  have hD : va_D A [(h0, .inr (0, [.null, .int 0])), (q1, .inl (k.1, 256, .inl (fun _ => 0)))] := hD
  refine va_put (D := D) (ci := 0) (v := .ref q1) (ty := .array .int) (C := R_Row) (T := T_Row) (N := 2) hx hb hts inw_Row ty_Row tyok_Row nm_Row hown hK hP hD hS 0 rfl rfl 0 (by decide) (hts (.fieldLink R_Row 11 "LikelyBits$Row" "cells" "[I") mw_1) (fun _ h9 => h9) rfl (by decide +kernel) rfl rfl (Nat.le_of_ble_eq_true rfl) d_Row_init_10 (fun H locs hP hD hS => ?_)
  have hP : va_P D vwCl [(h0, .inr (0, [.ref q1, .int 0])), (q1, .inl (k.1, 256, .inl (fun _ => 0)))] H := hP
  have hD : va_D A [(h0, .inr (0, [.ref q1, .int 0])), (q1, .inl (k.1, 256, .inl (fun _ => 0)))] := hD
  exact krv (wo := wo_Row_init k h0) hx hb hr hlk hP hD hS () q1 trivial trivial [0, 1] rfl (by decide) (by first | omega | (dsimp only; omega)) (by first | omega | (dsimp only; omega)) d_Row_init_13

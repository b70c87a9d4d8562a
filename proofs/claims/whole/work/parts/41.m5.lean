set_option maxRecDepth 20000 in
theorem mw_380 : (Cond.methodLink R_Mdl 1 objectInit) ∈ AW := inAW (List.mem_append_right _ (show _ ∈ tables_1_1 ++ (tables_1_2 ++ (tables_1_3 ++ tables_1_4)) from (List.mem_append_right _ (List.mem_append_right _ (List.mem_append_left _ (List.mem_of_getElem? (i := 171) rfl)))))) rfl
set_option maxRecDepth 20000 in
theorem mw_381 : (Cond.fieldLink R_Mdl 7 "LikelyBitsModel" "part" "[I") ∈ AW := inAW (List.mem_append_right _ (show _ ∈ tables_1_1 ++ (tables_1_2 ++ (tables_1_3 ++ tables_1_4)) from (List.mem_append_right _ (List.mem_append_right _ (List.mem_append_left _ (List.mem_of_getElem? (i := 173) rfl)))))) rfl
def wo_M_init (k : gK) (h0 : Nat) (zz : Nat × Nat × Nat × Nat × Nat) (uu : Unit) : va_W := match zz, uu with
  | (pP, pO, pB, pS, pK), _ => [(h0, .inr (9, [.ref pP, .ref pO, .int 0, .int 0, .ref pB, .ref pS, .ref pK, .int 0, .int 0, .int 0, .int 0, .int 0, .int 0, .int 0, .int 0, .int 0, .int 0, .int 0, .int 0, .long 0, .int 0, .int 0, .int 0])), (pP, .inl (k.1, 47, .inl tfP)), (pO, .inl (k.1, 47, .inl tfO)), (pB, .inl (k.1, 65536, .inl (fun _ => 0))), (pS, .inl (k.1, 38, .inl (fun _ => 0))), (pK, .inl (k.1, 38, .inl (fun _ => 0)))]
def ex_M_init (k : gK) (h0 : Nat) (zz : Nat × Nat × Nat × Nat × Nat) (uu : Unit) : Prop := match zz, uu with
  | (pP, pO, pB, pS, pK), _ => True
def po_M_init (k : gK) (h0 : Nat) (uu : Unit) : Prop := match uu with
  | _ => True
def qc_M_init (D : va_G) (k : gK) (h0 : Nat) (A : Nat → Prop) : Array Value → State → Outcome → State → Prop := va_Qv (po_M_init k h0) (fun uu t => ∃ zz, ex_M_init k h0 zz uu ∧ GP D A (wo_M_init k h0 zz uu) t) A
set_option maxHeartbeats 1000000 in
set_option maxRecDepth 100000 in
theorem c_M_init (l : Launch) (hl9 : l.stackTraces = false) (D : va_G) (k : gK) (h0 : Nat) (zsz : Nat)  : Met l y_Mdl_init (.code y_Mdl_init b_Mdl_init 1 none :: AW) ({ frames := 1, cells := 5, slots := 65706, locals := 22 }) (va_Pc [.ref h0] (GG D k [(h0, .inr (9, [.null, .null, .int 0, .int 0, .null, .null, .null, .int 0, .int 0, .int 0, .int 0, .int 0, .int 0, .int 0, .int 0, .int 0, .int 0, .int 0, .int 0, .long 0, .int 0, .int 0, .int 0]))] zsz)) (qc_M_init D k h0 (va_A [(h0, .inr (9, [.null, .null, .int 0, .int 0, .null, .null, .null, .int 0, .int 0, .int 0, .int 0, .int 0, .int 0, .int 0, .int 0, .int 0, .int 0, .int 0, .int 0, .long 0, .int 0, .int 0, .int 0]))] zsz)) 5 65706 (va_A [(h0, .inr (9, [.null, .null, .int 0, .int 0, .null, .null, .null, .int 0, .int 0, .int 0, .int 0, .int 0, .int 0, .int 0, .int 0, .int 0, .int 0, .int 0, .int 0, .long 0, .int 0, .int 0, .int 0]))] zsz) := by
  refine kMet (ws := [(h0, .inr (9, [.null, .null, .int 0, .int 0, .null, .null, .null, .int 0, .int 0, .int 0, .int 0, .int 0, .int 0, .int 0, .int 0, .int 0, .int 0, .int 0, .int 0, .long 0, .int 0, .int 0, .int 0]))]) (Qc := qc_M_init D k h0) (by decide) (Nat.le_of_ble_eq_true rfl) (fun p e s m below meth c ls A H Cc hP hD hA hS hl => ?_)
  obtain ⟨hx, hb, hml, hr, hlk, hown, hts, hK, hE, hin⟩ := Cc
  have hl : lv_has ls 1 [(0, .ref h0)] := hl
  refine lv_aload_n hx hb d_Mdl_init_0 rfl (lv_at hl 0 rfl) ?_
  refine W.objInit hx hb hown (hts (.methodLink R_Mdl 1 objectInit) mw_380) (hts (.instanceMethod objectInit) mw_3) (hts (.code objectInit ⟨#[0xb1]⟩ 1 none) mw_4) rfl (by rw [hml]; exact hl.1) rfl d_Mdl_init_1 (Nat.le_of_ble_eq_true rfl) (Nat.le_of_ble_eq_true rfl) ?_
  refine W.eq (g2 := F0 m 4 ls []) rfl ?_
  refine lv_aload_n hx hb d_Mdl_init_4 rfl (lv_at hl 0 rfl) ?_
  refine lv_bipush (v := 47) hx hb d_Mdl_init_5 (by decide) ?_
  refine va_newa (atype := .int) (ty := .int) (N' := 47) (a0 := (47, .inl (fun _ => 0))) hx hb (hts (.arrayClass .int) mw_5) rfl hK hP hD hS hA (ha_int 47) (by decide +kernel) (by decide +kernel) (by decide +kernel) (by first | omega | (dsimp only; omega)) (by first | omega | (dsimp only; omega)) d_Mdl_init_7 (fun q1 cA H hK1 hP hD hS => ?_)
  have ecA := newa_int hK1
  subst ecA
  have hP : va_P D vwCl [(h0, .inr (9, [.null, .null, .int 0, .int 0, .null, .null, .null, .int 0, .int 0, .int 0, .int 0, .int 0, .int 0, .int 0, .int 0, .int 0, .int 0, .int 0, .int 0, .long 0, .int 0, .int 0, .int 0])), (q1, .inl (k.1, 47, .inl (fun _ => 0)))] H := hP
  have hD : va_D A [(h0, .inr (9, [.null, .null, .int 0, .int 0, .null, .null, .null, .int 0, .int 0, .int 0, .int 0, .int 0, .int 0, .int 0, .int 0, .int 0, .int 0, .int 0, .int 0, .long 0, .int 0, .int 0, .int 0])), (q1, .inl (k.1, 47, .inl (fun _ => 0)))] := hD
  rw [pf_0 tabP] at hP hD
  have hP : va_P D vwCl [(h0, .inr (9, [.null, .null, .int 0, .int 0, .null, .null, .null, .int 0, .int 0, .int 0, .int 0, .int 0, .int 0, .int 0, .int 0, .int 0, .int 0, .int 0, .int 0, .long 0, .int 0, .int 0, .int 0])), (q1, .inl (k.1, 47, .inl (pf tabP 0)))] H := hP
  have hD : va_D A [(h0, .inr (9, [.null, .null, .int 0, .int 0, .null, .null, .null, .int 0, .int 0, .int 0, .int 0, .int 0, .int 0, .int 0, .int 0, .int 0, .int 0, .int 0, .int 0, .long 0, .int 0, .int 0, .int 0])), (q1, .inl (k.1, 47, .inl (pf tabP 0)))] := hD
  refine lv_dup hx hb d_Mdl_init_9 rfl ?_
  refine lv_iconst (v := 0) hx hb d_Mdl_init_10 (by decide) ?_
  refine lv_sipush (v := 22017) hx hb d_Mdl_init_11 (by decide) ?_
  refine va_iast hx hb hK hP hD hS 1 0 rfl rfl (by unfold vp_in; decide +kernel) d_Mdl_init_14 (fun H locs hP hD hS => ?_)
  have hP : va_P D vwCl [(h0, .inr (9, [.null, .null, .int 0, .int 0, .null, .null, .null, .int 0, .int 0, .int 0, .int 0, .int 0, .int 0, .int 0, .int 0, .int 0, .int 0, .int 0, .int 0, .long 0, .int 0, .int 0, .int 0])), (q1, .inl (k.1, 47, .inl (upd (pf tabP 0) (0 : Int32).toNatClampNeg 22017)))] H := hP
  have hD : va_D A [(h0, .inr (9, [.null, .null, .int 0, .int 0, .null, .null, .null, .int 0, .int 0, .int 0, .int 0, .int 0, .int 0, .int 0, .int 0, .int 0, .int 0, .int 0, .int 0, .long 0, .int 0, .int 0, .int 0])), (q1, .inl (k.1, 47, .inl (upd (pf tabP 0) (0 : Int32).toNatClampNeg 22017)))] := hD
  rw [pf_s (l := tabP) (j := 0) (v := 22017) 0 rfl rfl] at hP hD
  have hP : va_P D vwCl [(h0, .inr (9, [.null, .null, .int 0, .int 0, .null, .null, .null, .int 0, .int 0, .int 0, .int 0, .int 0, .int 0, .int 0, .int 0, .int 0, .int 0, .int 0, .int 0, .long 0, .int 0, .int 0, .int 0])), (q1, .inl (k.1, 47, .inl (pf tabP 1)))] H := hP
  have hD : va_D A [(h0, .inr (9, [.null, .null, .int 0, .int 0, .null, .null, .null, .int 0, .int 0, .int 0, .int 0, .int 0, .int 0, .int 0, .int 0, .int 0, .int 0, .int 0, .int 0, .long 0, .int 0, .int 0, .int 0])), (q1, .inl (k.1, 47, .inl (pf tabP 1)))] := hD
  refine lv_dup hx hb d_Mdl_init_15 rfl ?_
  refine lv_iconst (v := 1) hx hb d_Mdl_init_16 (by decide) ?_
  refine lv_sipush (v := 13313) hx hb d_Mdl_init_17 (by decide) ?_
  refine va_iast hx hb hK hP hD hS 1 0 rfl rfl (by unfold vp_in; decide +kernel) d_Mdl_init_20 (fun H locs hP hD hS => ?_)
  have hP : va_P D vwCl [(h0, .inr (9, [.null, .null, .int 0, .int 0, .null, .null, .null, .int 0, .int 0, .int 0, .int 0, .int 0, .int 0, .int 0, .int 0, .int 0, .int 0, .int 0, .int 0, .long 0, .int 0, .int 0, .int 0])), (q1, .inl (k.1, 47, .inl (upd (pf tabP 1) (1 : Int32).toNatClampNeg 13313)))] H := hP
  have hD : va_D A [(h0, .inr (9, [.null, .null, .int 0, .int 0, .null, .null, .null, .int 0, .int 0, .int 0, .int 0, .int 0, .int 0, .int 0, .int 0, .int 0, .int 0, .int 0, .int 0, .long 0, .int 0, .int 0, .int 0])), (q1, .inl (k.1, 47, .inl (upd (pf tabP 1) (1 : Int32).toNatClampNeg 13313)))] := hD
  rw [pf_s (l := tabP) (j := 1) (v := 13313) 1 rfl rfl] at hP hD
  have hP : va_P D vwCl [(h0, .inr (9, [.null, .null, .int 0, .int 0, .null, .null, .null, .int 0, .int 0, .int 0, .int 0, .int 0, .int 0, .int 0, .int 0, .int 0, .int 0, .int 0, .int 0, .long 0, .int 0, .int 0, .int 0])), (q1, .inl (k.1, 47, .inl (pf tabP 2)))] H := hP
  have hD : va_D A [(h0, .inr (9, [.null, .null, .int 0, .int 0, .null, .null, .null, .int 0, .int 0, .int 0, .int 0, .int 0, .int 0, .int 0, .int 0, .int 0, .int 0, .int 0, .int 0, .long 0, .int 0, .int 0, .int 0])), (q1, .inl (k.1, 47, .inl (pf tabP 2)))] := hD
  refine lv_dup hx hb d_Mdl_init_21 rfl ?_
  refine lv_iconst (v := 2) hx hb d_Mdl_init_22 (by decide) ?_
  refine lv_sipush (v := 6145) hx hb d_Mdl_init_23 (by decide) ?_
  refine va_iast hx hb hK hP hD hS 1 0 rfl rfl (by unfold vp_in; decide +kernel) d_Mdl_init_26 (fun H locs hP hD hS => ?_)
  have hP : va_P D vwCl [(h0, .inr (9, [.null, .null, .int 0, .int 0, .null, .null, .null, .int 0, .int 0, .int 0, .int 0, .int 0, .int 0, .int 0, .int 0, .int 0, .int 0, .int 0, .int 0, .long 0, .int 0, .int 0, .int 0])), (q1, .inl (k.1, 47, .inl (upd (pf tabP 2) (2 : Int32).toNatClampNeg 6145)))] H := hP
  have hD : va_D A [(h0, .inr (9, [.null, .null, .int 0, .int 0, .null, .null, .null, .int 0, .int 0, .int 0, .int 0, .int 0, .int 0, .int 0, .int 0, .int 0, .int 0, .int 0, .int 0, .long 0, .int 0, .int 0, .int 0])), (q1, .inl (k.1, 47, .inl (upd (pf tabP 2) (2 : Int32).toNatClampNeg 6145)))] := hD
  rw [pf_s (l := tabP) (j := 2) (v := 6145) 2 rfl rfl] at hP hD
  have hP : va_P D vwCl [(h0, .inr (9, [.null, .null, .int 0, .int 0, .null, .null, .null, .int 0, .int 0, .int 0, .int 0, .int 0, .int 0, .int 0, .int 0, .int 0, .int 0, .int 0, .int 0, .long 0, .int 0, .int 0, .int 0])), (q1, .inl (k.1, 47, .inl (pf tabP 3)))] H := hP
  have hD : va_D A [(h0, .inr (9, [.null, .null, .int 0, .int 0, .null, .null, .null, .int 0, .int 0, .int 0, .int 0, .int 0, .int 0, .int 0, .int 0, .int 0, .int 0, .int 0, .int 0, .long 0, .int 0, .int 0, .int 0])), (q1, .inl (k.1, 47, .inl (pf tabP 3)))] := hD
  refine lv_dup hx hb d_Mdl_init_27 rfl ?_
  refine lv_iconst (v := 3) hx hb d_Mdl_init_28 (by decide) ?_
  refine lv_sipush (v := 2753) hx hb d_Mdl_init_29 (by decide) ?_
  refine va_iast hx hb hK hP hD hS 1 0 rfl rfl (by unfold vp_in; decide +kernel) d_Mdl_init_32 (fun H locs hP hD hS => ?_)
  have hP : va_P D vwCl [(h0, .inr (9, [.null, .null, .int 0, .int 0, .null, .null, .null, .int 0, .int 0, .int 0, .int 0, .int 0, .int 0, .int 0, .int 0, .int 0, .int 0, .int 0, .int 0, .long 0, .int 0, .int 0, .int 0])), (q1, .inl (k.1, 47, .inl (upd (pf tabP 3) (3 : Int32).toNatClampNeg 2753)))] H := hP
  have hD : va_D A [(h0, .inr (9, [.null, .null, .int 0, .int 0, .null, .null, .null, .int 0, .int 0, .int 0, .int 0, .int 0, .int 0, .int 0, .int 0, .int 0, .int 0, .int 0, .int 0, .long 0, .int 0, .int 0, .int 0])), (q1, .inl (k.1, 47, .inl (upd (pf tabP 3) (3 : Int32).toNatClampNeg 2753)))] := hD
  rw [pf_s (l := tabP) (j := 3) (v := 2753) 3 rfl rfl] at hP hD
  have hP : va_P D vwCl [(h0, .inr (9, [.null, .null, .int 0, .int 0, .null, .null, .null, .int 0, .int 0, .int 0, .int 0, .int 0, .int 0, .int 0, .int 0, .int 0, .int 0, .int 0, .int 0, .long 0, .int 0, .int 0, .int 0])), (q1, .inl (k.1, 47, .inl (pf tabP 4)))] H := hP
  have hD : va_D A [(h0, .inr (9, [.null, .null, .int 0, .int 0, .null, .null, .null, .int 0, .int 0, .int 0, .int 0, .int 0, .int 0, .int 0, .int 0, .int 0, .int 0, .int 0, .int 0, .long 0, .int 0, .int 0, .int 0])), (q1, .inl (k.1, 47, .inl (pf tabP 4)))] := hD
  refine lv_dup hx hb d_Mdl_init_33 rfl ?_
  refine lv_iconst (v := 4) hx hb d_Mdl_init_34 (by decide) ?_
  refine lv_sipush (v := 1313) hx hb d_Mdl_init_35 (by decide) ?_
  refine va_iast hx hb hK hP hD hS 1 0 rfl rfl (by unfold vp_in; decide +kernel) d_Mdl_init_38 (fun H locs hP hD hS => ?_)
  have hP : va_P D vwCl [(h0, .inr (9, [.null, .null, .int 0, .int 0, .null, .null, .null, .int 0, .int 0, .int 0, .int 0, .int 0, .int 0, .int 0, .int 0, .int 0, .int 0, .int 0, .int 0, .long 0, .int 0, .int 0, .int 0])), (q1, .inl (k.1, 47, .inl (upd (pf tabP 4) (4 : Int32).toNatClampNeg 1313)))] H := hP
  have hD : va_D A [(h0, .inr (9, [.null, .null, .int 0, .int 0, .null, .null, .null, .int 0, .int 0, .int 0, .int 0, .int 0, .int 0, .int 0, .int 0, .int 0, .int 0, .int 0, .int 0, .long 0, .int 0, .int 0, .int 0])), (q1, .inl (k.1, 47, .inl (upd (pf tabP 4) (4 : Int32).toNatClampNeg 1313)))] := hD
  rw [pf_s (l := tabP) (j := 4) (v := 1313) 4 rfl rfl] at hP hD
  have hP : va_P D vwCl [(h0, .inr (9, [.null, .null, .int 0, .int 0, .null, .null, .null, .int 0, .int 0, .int 0, .int 0, .int 0, .int 0, .int 0, .int 0, .int 0, .int 0, .int 0, .int 0, .long 0, .int 0, .int 0, .int 0])), (q1, .inl (k.1, 47, .inl (pf tabP 5)))] H := hP
  have hD : va_D A [(h0, .inr (9, [.null, .null, .int 0, .int 0, .null, .null, .null, .int 0, .int 0, .int 0, .int 0, .int 0, .int 0, .int 0, .int 0, .int 0, .int 0, .int 0, .int 0, .long 0, .int 0, .int 0, .int 0])), (q1, .inl (k.1, 47, .inl (pf tabP 5)))] := hD
  refine lv_dup hx hb d_Mdl_init_39 rfl ?_
  refine lv_iconst (v := 5) hx hb d_Mdl_init_40 (by decide) ?_
  refine lv_sipush (v := 545) hx hb d_Mdl_init_41 (by decide) ?_
  refine va_iast hx hb hK hP hD hS 1 0 rfl rfl (by unfold vp_in; decide +kernel) d_Mdl_init_44 (fun H locs hP hD hS => ?_)
  have hP : va_P D vwCl [(h0, .inr (9, [.null, .null, .int 0, .int 0, .null, .null, .null, .int 0, .int 0, .int 0, .int 0, .int 0, .int 0, .int 0, .int 0, .int 0, .int 0, .int 0, .int 0, .long 0, .int 0, .int 0, .int 0])), (q1, .inl (k.1, 47, .inl (upd (pf tabP 5) (5 : Int32).toNatClampNeg 545)))] H := hP
  have hD : va_D A [(h0, .inr (9, [.null, .null, .int 0, .int 0, .null, .null, .null, .int 0, .int 0, .int 0, .int 0, .int 0, .int 0, .int 0, .int 0, .int 0, .int 0, .int 0, .int 0, .long 0, .int 0, .int 0, .int 0])), (q1, .inl (k.1, 47, .inl (upd (pf tabP 5) (5 : Int32).toNatClampNeg 545)))] := hD
  rw [pf_s (l := tabP) (j := 5) (v := 545) 5 rfl rfl] at hP hD
  have hP : va_P D vwCl [(h0, .inr (9, [.null, .null, .int 0, .int 0, .null, .null, .null, .int 0, .int 0, .int 0, .int 0, .int 0, .int 0, .int 0, .int 0, .int 0, .int 0, .int 0, .int 0, .long 0, .int 0, .int 0, .int 0])), (q1, .inl (k.1, 47, .inl (pf tabP 6)))] H := hP
  have hD : va_D A [(h0, .inr (9, [.null, .null, .int 0, .int 0, .null, .null, .null, .int 0, .int 0, .int 0, .int 0, .int 0, .int 0, .int 0, .int 0, .int 0, .int 0, .int 0, .int 0, .long 0, .int 0, .int 0, .int 0])), (q1, .inl (k.1, 47, .inl (pf tabP 6)))] := hD
  refine lv_dup hx hb d_Mdl_init_45 rfl ?_
  refine lv_bipush (v := 6) hx hb d_Mdl_init_46 (by decide) ?_
  refine lv_sipush (v := 22017) hx hb d_Mdl_init_48 (by decide) ?_
  refine va_iast hx hb hK hP hD hS 1 0 rfl rfl (by unfold vp_in; decide +kernel) d_Mdl_init_51 (fun H locs hP hD hS => ?_)
  have hP : va_P D vwCl [(h0, .inr (9, [.null, .null, .int 0, .int 0, .null, .null, .null, .int 0, .int 0, .int 0, .int 0, .int 0, .int 0, .int 0, .int 0, .int 0, .int 0, .int 0, .int 0, .long 0, .int 0, .int 0, .int 0])), (q1, .inl (k.1, 47, .inl (upd (pf tabP 6) (6 : Int32).toNatClampNeg 22017)))] H := hP
  have hD : va_D A [(h0, .inr (9, [.null, .null, .int 0, .int 0, .null, .null, .null, .int 0, .int 0, .int 0, .int 0, .int 0, .int 0, .int 0, .int 0, .int 0, .int 0, .int 0, .int 0, .long 0, .int 0, .int 0, .int 0])), (q1, .inl (k.1, 47, .inl (upd (pf tabP 6) (6 : Int32).toNatClampNeg 22017)))] := hD
  rw [pf_s (l := tabP) (j := 6) (v := 22017) 6 rfl rfl] at hP hD
  have hP : va_P D vwCl [(h0, .inr (9, [.null, .null, .int 0, .int 0, .null, .null, .null, .int 0, .int 0, .int 0, .int 0, .int 0, .int 0, .int 0, .int 0, .int 0, .int 0, .int 0, .int 0, .long 0, .int 0, .int 0, .int 0])), (q1, .inl (k.1, 47, .inl (pf tabP 7)))] H := hP
  have hD : va_D A [(h0, .inr (9, [.null, .null, .int 0, .int 0, .null, .null, .null, .int 0, .int 0, .int 0, .int 0, .int 0, .int 0, .int 0, .int 0, .int 0, .int 0, .int 0, .int 0, .long 0, .int 0, .int 0, .int 0])), (q1, .inl (k.1, 47, .inl (pf tabP 7)))] := hD
  refine lv_dup hx hb d_Mdl_init_52 rfl ?_
  refine lv_bipush (v := 7) hx hb d_Mdl_init_53 (by decide) ?_
  refine lv_sipush (v := 21505) hx hb d_Mdl_init_55 (by decide) ?_
  refine va_iast hx hb hK hP hD hS 1 0 rfl rfl (by unfold vp_in; decide +kernel) d_Mdl_init_58 (fun H locs hP hD hS => ?_)
  have hP : va_P D vwCl [(h0, .inr (9, [.null, .null, .int 0, .int 0, .null, .null, .null, .int 0, .int 0, .int 0, .int 0, .int 0, .int 0, .int 0, .int 0, .int 0, .int 0, .int 0, .int 0, .long 0, .int 0, .int 0, .int 0])), (q1, .inl (k.1, 47, .inl (upd (pf tabP 7) (7 : Int32).toNatClampNeg 21505)))] H := hP
  have hD : va_D A [(h0, .inr (9, [.null, .null, .int 0, .int 0, .null, .null, .null, .int 0, .int 0, .int 0, .int 0, .int 0, .int 0, .int 0, .int 0, .int 0, .int 0, .int 0, .int 0, .long 0, .int 0, .int 0, .int 0])), (q1, .inl (k.1, 47, .inl (upd (pf tabP 7) (7 : Int32).toNatClampNeg 21505)))] := hD
  rw [pf_s (l := tabP) (j := 7) (v := 21505) 7 rfl rfl] at hP hD
  have hP : va_P D vwCl [(h0, .inr (9, [.null, .null, .int 0, .int 0, .null, .null, .null, .int 0, .int 0, .int 0, .int 0, .int 0, .int 0, .int 0, .int 0, .int 0, .int 0, .int 0, .int 0, .long 0, .int 0, .int 0, .int 0])), (q1, .inl (k.1, 47, .inl (pf tabP 8)))] H := hP
  have hD : va_D A [(h0, .inr (9, [.null, .null, .int 0, .int 0, .null, .null, .null, .int 0, .int 0, .int 0, .int 0, .int 0, .int 0, .int 0, .int 0, .int 0, .int 0, .int 0, .int 0, .long 0, .int 0, .int 0, .int 0])), (q1, .inl (k.1, 47, .inl (pf tabP 8)))] := hD
  refine lv_dup hx hb d_Mdl_init_59 rfl ?_
  refine lv_bipush (v := 8) hx hb d_Mdl_init_60 (by decide) ?_
  refine lv_sipush (v := 18433) hx hb d_Mdl_init_62 (by decide) ?_
  refine va_iast hx hb hK hP hD hS 1 0 rfl rfl (by unfold vp_in; decide +kernel) d_Mdl_init_65 (fun H locs hP hD hS => ?_)
  have hP : va_P D vwCl [(h0, .inr (9, [.null, .null, .int 0, .int 0, .null, .null, .null, .int 0, .int 0, .int 0, .int 0, .int 0, .int 0, .int 0, .int 0, .int 0, .int 0, .int 0, .int 0, .long 0, .int 0, .int 0, .int 0])), (q1, .inl (k.1, 47, .inl (upd (pf tabP 8) (8 : Int32).toNatClampNeg 18433)))] H := hP
  have hD : va_D A [(h0, .inr (9, [.null, .null, .int 0, .int 0, .null, .null, .null, .int 0, .int 0, .int 0, .int 0, .int 0, .int 0, .int 0, .int 0, .int 0, .int 0, .int 0, .int 0, .long 0, .int 0, .int 0, .int 0])), (q1, .inl (k.1, 47, .inl (upd (pf tabP 8) (8 : Int32).toNatClampNeg 18433)))] := hD
  rw [pf_s (l := tabP) (j := 8) (v := 18433) 8 rfl rfl] at hP hD
  have hP : va_P D vwCl [(h0, .inr (9, [.null, .null, .int 0, .int 0, .null, .null, .null, .int 0, .int 0, .int 0, .int 0, .int 0, .int 0, .int 0, .int 0, .int 0, .int 0, .int 0, .int 0, .long 0, .int 0, .int 0, .int 0])), (q1, .inl (k.1, 47, .inl (pf tabP 9)))] H := hP
  have hD : va_D A [(h0, .inr (9, [.null, .null, .int 0, .int 0, .null, .null, .null, .int 0, .int 0, .int 0, .int 0, .int 0, .int 0, .int 0, .int 0, .int 0, .int 0, .int 0, .int 0, .long 0, .int 0, .int 0, .int 0])), (q1, .inl (k.1, 47, .inl (pf tabP 9)))] := hD
  refine lv_dup hx hb d_Mdl_init_66 rfl ?_
  refine lv_bipush (v := 9) hx hb d_Mdl_init_67 (by decide) ?_
  refine lv_sipush (v := 14337) hx hb d_Mdl_init_69 (by decide) ?_
  refine va_iast hx hb hK hP hD hS 1 0 rfl rfl (by unfold vp_in; decide +kernel) d_Mdl_init_72 (fun H locs hP hD hS => ?_)
  have hP : va_P D vwCl [(h0, .inr (9, [.null, .null, .int 0, .int 0, .null, .null, .null, .int 0, .int 0, .int 0, .int 0, .int 0, .int 0, .int 0, .int 0, .int 0, .int 0, .int 0, .int 0, .long 0, .int 0, .int 0, .int 0])), (q1, .inl (k.1, 47, .inl (upd (pf tabP 9) (9 : Int32).toNatClampNeg 14337)))] H := hP
  have hD : va_D A [(h0, .inr (9, [.null, .null, .int 0, .int 0, .null, .null, .null, .int 0, .int 0, .int 0, .int 0, .int 0, .int 0, .int 0, .int 0, .int 0, .int 0, .int 0, .int 0, .long 0, .int 0, .int 0, .int 0])), (q1, .inl (k.1, 47, .inl (upd (pf tabP 9) (9 : Int32).toNatClampNeg 14337)))] := hD
  rw [pf_s (l := tabP) (j := 9) (v := 14337) 9 rfl rfl] at hP hD
  have hP : va_P D vwCl [(h0, .inr (9, [.null, .null, .int 0, .int 0, .null, .null, .null, .int 0, .int 0, .int 0, .int 0, .int 0, .int 0, .int 0, .int 0, .int 0, .int 0, .int 0, .int 0, .long 0, .int 0, .int 0, .int 0])), (q1, .inl (k.1, 47, .inl (pf tabP 10)))] H := hP
  have hD : va_D A [(h0, .inr (9, [.null, .null, .int 0, .int 0, .null, .null, .null, .int 0, .int 0, .int 0, .int 0, .int 0, .int 0, .int 0, .int 0, .int 0, .int 0, .int 0, .int 0, .long 0, .int 0, .int 0, .int 0])), (q1, .inl (k.1, 47, .inl (pf tabP 10)))] := hD
  refine lv_dup hx hb d_Mdl_init_73 rfl ?_
  refine lv_bipush (v := 10) hx hb d_Mdl_init_74 (by decide) ?_
  refine lv_sipush (v := 12289) hx hb d_Mdl_init_76 (by decide) ?_
  refine va_iast hx hb hK hP hD hS 1 0 rfl rfl (by unfold vp_in; decide +kernel) d_Mdl_init_79 (fun H locs hP hD hS => ?_)
  have hP : va_P D vwCl [(h0, .inr (9, [.null, .null, .int 0, .int 0, .null, .null, .null, .int 0, .int 0, .int 0, .int 0, .int 0, .int 0, .int 0, .int 0, .int 0, .int 0, .int 0, .int 0, .long 0, .int 0, .int 0, .int 0])), (q1, .inl (k.1, 47, .inl (upd (pf tabP 10) (10 : Int32).toNatClampNeg 12289)))] H := hP
  have hD : va_D A [(h0, .inr (9, [.null, .null, .int 0, .int 0, .null, .null, .null, .int 0, .int 0, .int 0, .int 0, .int 0, .int 0, .int 0, .int 0, .int 0, .int 0, .int 0, .int 0, .long 0, .int 0, .int 0, .int 0])), (q1, .inl (k.1, 47, .inl (upd (pf tabP 10) (10 : Int32).toNatClampNeg 12289)))] := hD
  rw [pf_s (l := tabP) (j := 10) (v := 12289) 10 rfl rfl] at hP hD
  have hP : va_P D vwCl [(h0, .inr (9, [.null, .null, .int 0, .int 0, .null, .null, .null, .int 0, .int 0, .int 0, .int 0, .int 0, .int 0, .int 0, .int 0, .int 0, .int 0, .int 0, .int 0, .long 0, .int 0, .int 0, .int 0])), (q1, .inl (k.1, 47, .inl (pf tabP 11)))] H := hP
  have hD : va_D A [(h0, .inr (9, [.null, .null, .int 0, .int 0, .null, .null, .null, .int 0, .int 0, .int 0, .int 0, .int 0, .int 0, .int 0, .int 0, .int 0, .int 0, .int 0, .int 0, .long 0, .int 0, .int 0, .int 0])), (q1, .inl (k.1, 47, .inl (pf tabP 11)))] := hD
  refine lv_dup hx hb d_Mdl_init_80 rfl ?_
  refine lv_bipush (v := 11) hx hb d_Mdl_init_81 (by decide) ?_
  refine lv_sipush (v := 9217) hx hb d_Mdl_init_83 (by decide) ?_
  refine va_iast hx hb hK hP hD hS 1 0 rfl rfl (by unfold vp_in; decide +kernel) d_Mdl_init_86 (fun H locs hP hD hS => ?_)
  have hP : va_P D vwCl [(h0, .inr (9, [.null, .null, .int 0, .int 0, .null, .null, .null, .int 0, .int 0, .int 0, .int 0, .int 0, .int 0, .int 0, .int 0, .int 0, .int 0, .int 0, .int 0, .long 0, .int 0, .int 0, .int 0])), (q1, .inl (k.1, 47, .inl (upd (pf tabP 11) (11 : Int32).toNatClampNeg 9217)))] H := hP
  have hD : va_D A [(h0, .inr (9, [.null, .null, .int 0, .int 0, .null, .null, .null, .int 0, .int 0, .int 0, .int 0, .int 0, .int 0, .int 0, .int 0, .int 0, .int 0, .int 0, .int 0, .long 0, .int 0, .int 0, .int 0])), (q1, .inl (k.1, 47, .inl (upd (pf tabP 11) (11 : Int32).toNatClampNeg 9217)))] := hD
  rw [pf_s (l := tabP) (j := 11) (v := 9217) 11 rfl rfl] at hP hD
  have hP : va_P D vwCl [(h0, .inr (9, [.null, .null, .int 0, .int 0, .null, .null, .null, .int 0, .int 0, .int 0, .int 0, .int 0, .int 0, .int 0, .int 0, .int 0, .int 0, .int 0, .int 0, .long 0, .int 0, .int 0, .int 0])), (q1, .inl (k.1, 47, .inl (pf tabP 12)))] H := hP
  have hD : va_D A [(h0, .inr (9, [.null, .null, .int 0, .int 0, .null, .null, .null, .int 0, .int 0, .int 0, .int 0, .int 0, .int 0, .int 0, .int 0, .int 0, .int 0, .int 0, .int 0, .long 0, .int 0, .int 0, .int 0])), (q1, .inl (k.1, 47, .inl (pf tabP 12)))] := hD
  refine lv_dup hx hb d_Mdl_init_87 rfl ?_
  refine lv_bipush (v := 12) hx hb d_Mdl_init_88 (by decide) ?_
  refine lv_sipush (v := 7169) hx hb d_Mdl_init_90 (by decide) ?_
  refine va_iast hx hb hK hP hD hS 1 0 rfl rfl (by unfold vp_in; decide +kernel) d_Mdl_init_93 (fun H locs hP hD hS => ?_)
  have hP : va_P D vwCl [(h0, .inr (9, [.null, .null, .int 0, .int 0, .null, .null, .null, .int 0, .int 0, .int 0, .int 0, .int 0, .int 0, .int 0, .int 0, .int 0, .int 0, .int 0, .int 0, .long 0, .int 0, .int 0, .int 0])), (q1, .inl (k.1, 47, .inl (upd (pf tabP 12) (12 : Int32).toNatClampNeg 7169)))] H := hP
  have hD : va_D A [(h0, .inr (9, [.null, .null, .int 0, .int 0, .null, .null, .null, .int 0, .int 0, .int 0, .int 0, .int 0, .int 0, .int 0, .int 0, .int 0, .int 0, .int 0, .int 0, .long 0, .int 0, .int 0, .int 0])), (q1, .inl (k.1, 47, .inl (upd (pf tabP 12) (12 : Int32).toNatClampNeg 7169)))] := hD
  rw [pf_s (l := tabP) (j := 12) (v := 7169) 12 rfl rfl] at hP hD
  have hP : va_P D vwCl [(h0, .inr (9, [.null, .null, .int 0, .int 0, .null, .null, .null, .int 0, .int 0, .int 0, .int 0, .int 0, .int 0, .int 0, .int 0, .int 0, .int 0, .int 0, .int 0, .long 0, .int 0, .int 0, .int 0])), (q1, .inl (k.1, 47, .inl (pf tabP 13)))] H := hP
  have hD : va_D A [(h0, .inr (9, [.null, .null, .int 0, .int 0, .null, .null, .null, .int 0, .int 0, .int 0, .int 0, .int 0, .int 0, .int 0, .int 0, .int 0, .int 0, .int 0, .int 0, .long 0, .int 0, .int 0, .int 0])), (q1, .inl (k.1, 47, .inl (pf tabP 13)))] := hD
  refine lv_dup hx hb d_Mdl_init_94 rfl ?_
  refine lv_bipush (v := 13) hx hb d_Mdl_init_95 (by decide) ?_
  refine lv_sipush (v := 5633) hx hb d_Mdl_init_97 (by decide) ?_
  refine va_iast hx hb hK hP hD hS 1 0 rfl rfl (by unfold vp_in; decide +kernel) d_Mdl_init_100 (fun H locs hP hD hS => ?_)
  have hP : va_P D vwCl [(h0, .inr (9, [.null, .null, .int 0, .int 0, .null, .null, .null, .int 0, .int 0, .int 0, .int 0, .int 0, .int 0, .int 0, .int 0, .int 0, .int 0, .int 0, .int 0, .long 0, .int 0, .int 0, .int 0])), (q1, .inl (k.1, 47, .inl (upd (pf tabP 13) (13 : Int32).toNatClampNeg 5633)))] H := hP
  have hD : va_D A [(h0, .inr (9, [.null, .null, .int 0, .int 0, .null, .null, .null, .int 0, .int 0, .int 0, .int 0, .int 0, .int 0, .int 0, .int 0, .int 0, .int 0, .int 0, .int 0, .long 0, .int 0, .int 0, .int 0])), (q1, .inl (k.1, 47, .inl (upd (pf tabP 13) (13 : Int32).toNatClampNeg 5633)))] := hD
  rw [pf_s (l := tabP) (j := 13) (v := 5633) 13 rfl rfl] at hP hD
  have hP : va_P D vwCl [(h0, .inr (9, [.null, .null, .int 0, .int 0, .null, .null, .null, .int 0, .int 0, .int 0, .int 0, .int 0, .int 0, .int 0, .int 0, .int 0, .int 0, .int 0, .int 0, .long 0, .int 0, .int 0, .int 0])), (q1, .inl (k.1, 47, .inl (pf tabP 14)))] H := hP
  have hD : va_D A [(h0, .inr (9, [.null, .null, .int 0, .int 0, .null, .null, .null, .int 0, .int 0, .int 0, .int 0, .int 0, .int 0, .int 0, .int 0, .int 0, .int 0, .int 0, .int 0, .long 0, .int 0, .int 0, .int 0])), (q1, .inl (k.1, 47, .inl (pf tabP 14)))] := hD
  refine lv_dup hx hb d_Mdl_init_101 rfl ?_
  refine lv_bipush (v := 14) hx hb d_Mdl_init_102 (by decide) ?_
  refine lv_sipush (v := 22017) hx hb d_Mdl_init_104 (by decide) ?_
  refine va_iast hx hb hK hP hD hS 1 0 rfl rfl (by unfold vp_in; decide +kernel) d_Mdl_init_107 (fun H locs hP hD hS => ?_)
  have hP : va_P D vwCl [(h0, .inr (9, [.null, .null, .int 0, .int 0, .null, .null, .null, .int 0, .int 0, .int 0, .int 0, .int 0, .int 0, .int 0, .int 0, .int 0, .int 0, .int 0, .int 0, .long 0, .int 0, .int 0, .int 0])), (q1, .inl (k.1, 47, .inl (upd (pf tabP 14) (14 : Int32).toNatClampNeg 22017)))] H := hP
  have hD : va_D A [(h0, .inr (9, [.null, .null, .int 0, .int 0, .null, .null, .null, .int 0, .int 0, .int 0, .int 0, .int 0, .int 0, .int 0, .int 0, .int 0, .int 0, .int 0, .int 0, .long 0, .int 0, .int 0, .int 0])), (q1, .inl (k.1, 47, .inl (upd (pf tabP 14) (14 : Int32).toNatClampNeg 22017)))] := hD
  rw [pf_s (l := tabP) (j := 14) (v := 22017) 14 rfl rfl] at hP hD
  have hP : va_P D vwCl [(h0, .inr (9, [.null, .null, .int 0, .int 0, .null, .null, .null, .int 0, .int 0, .int 0, .int 0, .int 0, .int 0, .int 0, .int 0, .int 0, .int 0, .int 0, .int 0, .long 0, .int 0, .int 0, .int 0])), (q1, .inl (k.1, 47, .inl (pf tabP 15)))] H := hP
  have hD : va_D A [(h0, .inr (9, [.null, .null, .int 0, .int 0, .null, .null, .null, .int 0, .int 0, .int 0, .int 0, .int 0, .int 0, .int 0, .int 0, .int 0, .int 0, .int 0, .int 0, .long 0, .int 0, .int 0, .int 0])), (q1, .inl (k.1, 47, .inl (pf tabP 15)))] := hD
  refine lv_dup hx hb d_Mdl_init_108 rfl ?_
  refine lv_bipush (v := 15) hx hb d_Mdl_init_109 (by decide) ?_
  refine lv_sipush (v := 21505) hx hb d_Mdl_init_111 (by decide) ?_
  refine va_iast hx hb hK hP hD hS 1 0 rfl rfl (by unfold vp_in; decide +kernel) d_Mdl_init_114 (fun H locs hP hD hS => ?_)
  have hP : va_P D vwCl [(h0, .inr (9, [.null, .null, .int 0, .int 0, .null, .null, .null, .int 0, .int 0, .int 0, .int 0, .int 0, .int 0, .int 0, .int 0, .int 0, .int 0, .int 0, .int 0, .long 0, .int 0, .int 0, .int 0])), (q1, .inl (k.1, 47, .inl (upd (pf tabP 15) (15 : Int32).toNatClampNeg 21505)))] H := hP
  have hD : va_D A [(h0, .inr (9, [.null, .null, .int 0, .int 0, .null, .null, .null, .int 0, .int 0, .int 0, .int 0, .int 0, .int 0, .int 0, .int 0, .int 0, .int 0, .int 0, .int 0, .long 0, .int 0, .int 0, .int 0])), (q1, .inl (k.1, 47, .inl (upd (pf tabP 15) (15 : Int32).toNatClampNeg 21505)))] := hD
  rw [pf_s (l := tabP) (j := 15) (v := 21505) 15 rfl rfl] at hP hD
  have hP : va_P D vwCl [(h0, .inr (9, [.null, .null, .int 0, .int 0, .null, .null, .null, .int 0, .int 0, .int 0, .int 0, .int 0, .int 0, .int 0, .int 0, .int 0, .int 0, .int 0, .int 0, .long 0, .int 0, .int 0, .int 0])), (q1, .inl (k.1, 47, .inl (pf tabP 16)))] H := hP
  have hD : va_D A [(h0, .inr (9, [.null, .null, .int 0, .int 0, .null, .null, .null, .int 0, .int 0, .int 0, .int 0, .int 0, .int 0, .int 0, .int 0, .int 0, .int 0, .int 0, .int 0, .long 0, .int 0, .int 0, .int 0])), (q1, .inl (k.1, 47, .inl (pf tabP 16)))] := hD
  refine lv_dup hx hb d_Mdl_init_115 rfl ?_
  refine lv_bipush (v := 16) hx hb d_Mdl_init_116 (by decide) ?_
  refine lv_sipush (v := 20737) hx hb d_Mdl_init_118 (by decide) ?_
  refine va_iast hx hb hK hP hD hS 1 0 rfl rfl (by unfold vp_in; decide +kernel) d_Mdl_init_121 (fun H locs hP hD hS => ?_)
  have hP : va_P D vwCl [(h0, .inr (9, [.null, .null, .int 0, .int 0, .null, .null, .null, .int 0, .int 0, .int 0, .int 0, .int 0, .int 0, .int 0, .int 0, .int 0, .int 0, .int 0, .int 0, .long 0, .int 0, .int 0, .int 0])), (q1, .inl (k.1, 47, .inl (upd (pf tabP 16) (16 : Int32).toNatClampNeg 20737)))] H := hP
  have hD : va_D A [(h0, .inr (9, [.null, .null, .int 0, .int 0, .null, .null, .null, .int 0, .int 0, .int 0, .int 0, .int 0, .int 0, .int 0, .int 0, .int 0, .int 0, .int 0, .int 0, .long 0, .int 0, .int 0, .int 0])), (q1, .inl (k.1, 47, .inl (upd (pf tabP 16) (16 : Int32).toNatClampNeg 20737)))] := hD
  rw [pf_s (l := tabP) (j := 16) (v := 20737) 16 rfl rfl] at hP hD
  have hP : va_P D vwCl [(h0, .inr (9, [.null, .null, .int 0, .int 0, .null, .null, .null, .int 0, .int 0, .int 0, .int 0, .int 0, .int 0, .int 0, .int 0, .int 0, .int 0, .int 0, .int 0, .long 0, .int 0, .int 0, .int 0])), (q1, .inl (k.1, 47, .inl (pf tabP 17)))] H := hP
  have hD : va_D A [(h0, .inr (9, [.null, .null, .int 0, .int 0, .null, .null, .null, .int 0, .int 0, .int 0, .int 0, .int 0, .int 0, .int 0, .int 0, .int 0, .int 0, .int 0, .int 0, .long 0, .int 0, .int 0, .int 0])), (q1, .inl (k.1, 47, .inl (pf tabP 17)))] := hD
  refine lv_dup hx hb d_Mdl_init_122 rfl ?_
  refine lv_bipush (v := 17) hx hb d_Mdl_init_123 (by decide) ?_
  refine lv_sipush (v := 18433) hx hb d_Mdl_init_125 (by decide) ?_
  refine va_iast hx hb hK hP hD hS 1 0 rfl rfl (by unfold vp_in; decide +kernel) d_Mdl_init_128 (fun H locs hP hD hS => ?_)
  have hP : va_P D vwCl [(h0, .inr (9, [.null, .null, .int 0, .int 0, .null, .null, .null, .int 0, .int 0, .int 0, .int 0, .int 0, .int 0, .int 0, .int 0, .int 0, .int 0, .int 0, .int 0, .long 0, .int 0, .int 0, .int 0])), (q1, .inl (k.1, 47, .inl (upd (pf tabP 17) (17 : Int32).toNatClampNeg 18433)))] H := hP
  have hD : va_D A [(h0, .inr (9, [.null, .null, .int 0, .int 0, .null, .null, .null, .int 0, .int 0, .int 0, .int 0, .int 0, .int 0, .int 0, .int 0, .int 0, .int 0, .int 0, .int 0, .long 0, .int 0, .int 0, .int 0])), (q1, .inl (k.1, 47, .inl (upd (pf tabP 17) (17 : Int32).toNatClampNeg 18433)))] := hD
  rw [pf_s (l := tabP) (j := 17) (v := 18433) 17 rfl rfl] at hP hD
  have hP : va_P D vwCl [(h0, .inr (9, [.null, .null, .int 0, .int 0, .null, .null, .null, .int 0, .int 0, .int 0, .int 0, .int 0, .int 0, .int 0, .int 0, .int 0, .int 0, .int 0, .int 0, .long 0, .int 0, .int 0, .int 0])), (q1, .inl (k.1, 47, .inl (pf tabP 18)))] H := hP
  have hD : va_D A [(h0, .inr (9, [.null, .null, .int 0, .int 0, .null, .null, .null, .int 0, .int 0, .int 0, .int 0, .int 0, .int 0, .int 0, .int 0, .int 0, .int 0, .int 0, .int 0, .long 0, .int 0, .int 0, .int 0])), (q1, .inl (k.1, 47, .inl (pf tabP 18)))] := hD
  refine lv_dup hx hb d_Mdl_init_129 rfl ?_
  refine lv_bipush (v := 18) hx hb d_Mdl_init_130 (by decide) ?_
  refine lv_sipush (v := 14337) hx hb d_Mdl_init_132 (by decide) ?_
  refine va_iast hx hb hK hP hD hS 1 0 rfl rfl (by unfold vp_in; decide +kernel) d_Mdl_init_135 (fun H locs hP hD hS => ?_)
  have hP : va_P D vwCl [(h0, .inr (9, [.null, .null, .int 0, .int 0, .null, .null, .null, .int 0, .int 0, .int 0, .int 0, .int 0, .int 0, .int 0, .int 0, .int 0, .int 0, .int 0, .int 0, .long 0, .int 0, .int 0, .int 0])), (q1, .inl (k.1, 47, .inl (upd (pf tabP 18) (18 : Int32).toNatClampNeg 14337)))] H := hP
  have hD : va_D A [(h0, .inr (9, [.null, .null, .int 0, .int 0, .null, .null, .null, .int 0, .int 0, .int 0, .int 0, .int 0, .int 0, .int 0, .int 0, .int 0, .int 0, .int 0, .int 0, .long 0, .int 0, .int 0, .int 0])), (q1, .inl (k.1, 47, .inl (upd (pf tabP 18) (18 : Int32).toNatClampNeg 14337)))] := hD
  rw [pf_s (l := tabP) (j := 18) (v := 14337) 18 rfl rfl] at hP hD
  have hP : va_P D vwCl [(h0, .inr (9, [.null, .null, .int 0, .int 0, .null, .null, .null, .int 0, .int 0, .int 0, .int 0, .int 0, .int 0, .int 0, .int 0, .int 0, .int 0, .int 0, .int 0, .long 0, .int 0, .int 0, .int 0])), (q1, .inl (k.1, 47, .inl (pf tabP 19)))] H := hP
  have hD : va_D A [(h0, .inr (9, [.null, .null, .int 0, .int 0, .null, .null, .null, .int 0, .int 0, .int 0, .int 0, .int 0, .int 0, .int 0, .int 0, .int 0, .int 0, .int 0, .int 0, .long 0, .int 0, .int 0, .int 0])), (q1, .inl (k.1, 47, .inl (pf tabP 19)))] := hD
  refine lv_dup hx hb d_Mdl_init_136 rfl ?_
  refine lv_bipush (v := 19) hx hb d_Mdl_init_137 (by decide) ?_
  refine lv_sipush (v := 13313) hx hb d_Mdl_init_139 (by decide) ?_
  refine va_iast hx hb hK hP hD hS 1 0 rfl rfl (by unfold vp_in; decide +kernel) d_Mdl_init_142 (fun H locs hP hD hS => ?_)
  have hP : va_P D vwCl [(h0, .inr (9, [.null, .null, .int 0, .int 0, .null, .null, .null, .int 0, .int 0, .int 0, .int 0, .int 0, .int 0, .int 0, .int 0, .int 0, .int 0, .int 0, .int 0, .long 0, .int 0, .int 0, .int 0])), (q1, .inl (k.1, 47, .inl (upd (pf tabP 19) (19 : Int32).toNatClampNeg 13313)))] H := hP
  have hD : va_D A [(h0, .inr (9, [.null, .null, .int 0, .int 0, .null, .null, .null, .int 0, .int 0, .int 0, .int 0, .int 0, .int 0, .int 0, .int 0, .int 0, .int 0, .int 0, .int 0, .long 0, .int 0, .int 0, .int 0])), (q1, .inl (k.1, 47, .inl (upd (pf tabP 19) (19 : Int32).toNatClampNeg 13313)))] := hD
  rw [pf_s (l := tabP) (j := 19) (v := 13313) 19 rfl rfl] at hP hD
  have hP : va_P D vwCl [(h0, .inr (9, [.null, .null, .int 0, .int 0, .null, .null, .null, .int 0, .int 0, .int 0, .int 0, .int 0, .int 0, .int 0, .int 0, .int 0, .int 0, .int 0, .int 0, .long 0, .int 0, .int 0, .int 0])), (q1, .inl (k.1, 47, .inl (pf tabP 20)))] H := hP
  have hD : va_D A [(h0, .inr (9, [.null, .null, .int 0, .int 0, .null, .null, .null, .int 0, .int 0, .int 0, .int 0, .int 0, .int 0, .int 0, .int 0, .int 0, .int 0, .int 0, .int 0, .long 0, .int 0, .int 0, .int 0])), (q1, .inl (k.1, 47, .inl (pf tabP 20)))] := hD
  refine lv_dup hx hb d_Mdl_init_143 rfl ?_
  refine lv_bipush (v := 20) hx hb d_Mdl_init_144 (by decide) ?_
  refine lv_sipush (v := 12289) hx hb d_Mdl_init_146 (by decide) ?_
  refine va_iast hx hb hK hP hD hS 1 0 rfl rfl (by unfold vp_in; decide +kernel) d_Mdl_init_149 (fun H locs hP hD hS => ?_)
  have hP : va_P D vwCl [(h0, .inr (9, [.null, .null, .int 0, .int 0, .null, .null, .null, .int 0, .int 0, .int 0, .int 0, .int 0, .int 0, .int 0, .int 0, .int 0, .int 0, .int 0, .int 0, .long 0, .int 0, .int 0, .int 0])), (q1, .inl (k.1, 47, .inl (upd (pf tabP 20) (20 : Int32).toNatClampNeg 12289)))] H := hP
  have hD : va_D A [(h0, .inr (9, [.null, .null, .int 0, .int 0, .null, .null, .null, .int 0, .int 0, .int 0, .int 0, .int 0, .int 0, .int 0, .int 0, .int 0, .int 0, .int 0, .int 0, .long 0, .int 0, .int 0, .int 0])), (q1, .inl (k.1, 47, .inl (upd (pf tabP 20) (20 : Int32).toNatClampNeg 12289)))] := hD
  rw [pf_s (l := tabP) (j := 20) (v := 12289) 20 rfl rfl] at hP hD
  have hP : va_P D vwCl [(h0, .inr (9, [.null, .null, .int 0, .int 0, .null, .null, .null, .int 0, .int 0, .int 0, .int 0, .int 0, .int 0, .int 0, .int 0, .int 0, .int 0, .int 0, .int 0, .long 0, .int 0, .int 0, .int 0])), (q1, .inl (k.1, 47, .inl (pf tabP 21)))] H := hP
  have hD : va_D A [(h0, .inr (9, [.null, .null, .int 0, .int 0, .null, .null, .null, .int 0, .int 0, .int 0, .int 0, .int 0, .int 0, .int 0, .int 0, .int 0, .int 0, .int 0, .int 0, .long 0, .int 0, .int 0, .int 0])), (q1, .inl (k.1, 47, .inl (pf tabP 21)))] := hD
  refine lv_dup hx hb d_Mdl_init_150 rfl ?_
  refine lv_bipush (v := 21) hx hb d_Mdl_init_151 (by decide) ?_
  refine lv_sipush (v := 10241) hx hb d_Mdl_init_153 (by decide) ?_
  refine va_iast hx hb hK hP hD hS 1 0 rfl rfl (by unfold vp_in; decide +kernel) d_Mdl_init_156 (fun H locs hP hD hS => ?_)
  have hP : va_P D vwCl [(h0, .inr (9, [.null, .null, .int 0, .int 0, .null, .null, .null, .int 0, .int 0, .int 0, .int 0, .int 0, .int 0, .int 0, .int 0, .int 0, .int 0, .int 0, .int 0, .long 0, .int 0, .int 0, .int 0])), (q1, .inl (k.1, 47, .inl (upd (pf tabP 21) (21 : Int32).toNatClampNeg 10241)))] H := hP
  have hD : va_D A [(h0, .inr (9, [.null, .null, .int 0, .int 0, .null, .null, .null, .int 0, .int 0, .int 0, .int 0, .int 0, .int 0, .int 0, .int 0, .int 0, .int 0, .int 0, .int 0, .long 0, .int 0, .int 0, .int 0])), (q1, .inl (k.1, 47, .inl (upd (pf tabP 21) (21 : Int32).toNatClampNeg 10241)))] := hD
  rw [pf_s (l := tabP) (j := 21) (v := 10241) 21 rfl rfl] at hP hD
  have hP : va_P D vwCl [(h0, .inr (9, [.null, .null, .int 0, .int 0, .null, .null, .null, .int 0, .int 0, .int 0, .int 0, .int 0, .int 0, .int 0, .int 0, .int 0, .int 0, .int 0, .int 0, .long 0, .int 0, .int 0, .int 0])), (q1, .inl (k.1, 47, .inl (pf tabP 22)))] H := hP
  have hD : va_D A [(h0, .inr (9, [.null, .null, .int 0, .int 0, .null, .null, .null, .int 0, .int 0, .int 0, .int 0, .int 0, .int 0, .int 0, .int 0, .int 0, .int 0, .int 0, .int 0, .long 0, .int 0, .int 0, .int 0])), (q1, .inl (k.1, 47, .inl (pf tabP 22)))] := hD
  refine lv_dup hx hb d_Mdl_init_157 rfl ?_
  refine lv_bipush (v := 22) hx hb d_Mdl_init_158 (by decide) ?_
  refine lv_sipush (v := 9217) hx hb d_Mdl_init_160 (by decide) ?_
  refine va_iast hx hb hK hP hD hS 1 0 rfl rfl (by unfold vp_in; decide +kernel) d_Mdl_init_163 (fun H locs hP hD hS => ?_)
  have hP : va_P D vwCl [(h0, .inr (9, [.null, .null, .int 0, .int 0, .null, .null, .null, .int 0, .int 0, .int 0, .int 0, .int 0, .int 0, .int 0, .int 0, .int 0, .int 0, .int 0, .int 0, .long 0, .int 0, .int 0, .int 0])), (q1, .inl (k.1, 47, .inl (upd (pf tabP 22) (22 : Int32).toNatClampNeg 9217)))] H := hP
  have hD : va_D A [(h0, .inr (9, [.null, .null, .int 0, .int 0, .null, .null, .null, .int 0, .int 0, .int 0, .int 0, .int 0, .int 0, .int 0, .int 0, .int 0, .int 0, .int 0, .int 0, .long 0, .int 0, .int 0, .int 0])), (q1, .inl (k.1, 47, .inl (upd (pf tabP 22) (22 : Int32).toNatClampNeg 9217)))] := hD
  rw [pf_s (l := tabP) (j := 22) (v := 9217) 22 rfl rfl] at hP hD
  have hP : va_P D vwCl [(h0, .inr (9, [.null, .null, .int 0, .int 0, .null, .null, .null, .int 0, .int 0, .int 0, .int 0, .int 0, .int 0, .int 0, .int 0, .int 0, .int 0, .int 0, .int 0, .long 0, .int 0, .int 0, .int 0])), (q1, .inl (k.1, 47, .inl (pf tabP 23)))] H := hP
  have hD : va_D A [(h0, .inr (9, [.null, .null, .int 0, .int 0, .null, .null, .null, .int 0, .int 0, .int 0, .int 0, .int 0, .int 0, .int 0, .int 0, .int 0, .int 0, .int 0, .int 0, .long 0, .int 0, .int 0, .int 0])), (q1, .inl (k.1, 47, .inl (pf tabP 23)))] := hD
  refine lv_dup hx hb d_Mdl_init_164 rfl ?_
  refine lv_bipush (v := 23) hx hb d_Mdl_init_165 (by decide) ?_
  refine lv_sipush (v := 8705) hx hb d_Mdl_init_167 (by decide) ?_
  refine va_iast hx hb hK hP hD hS 1 0 rfl rfl (by unfold vp_in; decide +kernel) d_Mdl_init_170 (fun H locs hP hD hS => ?_)
  have hP : va_P D vwCl [(h0, .inr (9, [.null, .null, .int 0, .int 0, .null, .null, .null, .int 0, .int 0, .int 0, .int 0, .int 0, .int 0, .int 0, .int 0, .int 0, .int 0, .int 0, .int 0, .long 0, .int 0, .int 0, .int 0])), (q1, .inl (k.1, 47, .inl (upd (pf tabP 23) (23 : Int32).toNatClampNeg 8705)))] H := hP
  have hD : va_D A [(h0, .inr (9, [.null, .null, .int 0, .int 0, .null, .null, .null, .int 0, .int 0, .int 0, .int 0, .int 0, .int 0, .int 0, .int 0, .int 0, .int 0, .int 0, .int 0, .long 0, .int 0, .int 0, .int 0])), (q1, .inl (k.1, 47, .inl (upd (pf tabP 23) (23 : Int32).toNatClampNeg 8705)))] := hD
  rw [pf_s (l := tabP) (j := 23) (v := 8705) 23 rfl rfl] at hP hD
  have hP : va_P D vwCl [(h0, .inr (9, [.null, .null, .int 0, .int 0, .null, .null, .null, .int 0, .int 0, .int 0, .int 0, .int 0, .int 0, .int 0, .int 0, .int 0, .int 0, .int 0, .int 0, .long 0, .int 0, .int 0, .int 0])), (q1, .inl (k.1, 47, .inl (pf tabP 24)))] H := hP
  have hD : va_D A [(h0, .inr (9, [.null, .null, .int 0, .int 0, .null, .null, .null, .int 0, .int 0, .int 0, .int 0, .int 0, .int 0, .int 0, .int 0, .int 0, .int 0, .int 0, .int 0, .long 0, .int 0, .int 0, .int 0])), (q1, .inl (k.1, 47, .inl (pf tabP 24)))] := hD
  refine lv_dup hx hb d_Mdl_init_171 rfl ?_
  refine lv_bipush (v := 24) hx hb d_Mdl_init_172 (by decide) ?_
  refine lv_sipush (v := 7169) hx hb d_Mdl_init_174 (by decide) ?_
  refine va_iast hx hb hK hP hD hS 1 0 rfl rfl (by unfold vp_in; decide +kernel) d_Mdl_init_177 (fun H locs hP hD hS => ?_)
  have hP : va_P D vwCl [(h0, .inr (9, [.null, .null, .int 0, .int 0, .null, .null, .null, .int 0, .int 0, .int 0, .int 0, .int 0, .int 0, .int 0, .int 0, .int 0, .int 0, .int 0, .int 0, .long 0, .int 0, .int 0, .int 0])), (q1, .inl (k.1, 47, .inl (upd (pf tabP 24) (24 : Int32).toNatClampNeg 7169)))] H := hP
  have hD : va_D A [(h0, .inr (9, [.null, .null, .int 0, .int 0, .null, .null, .null, .int 0, .int 0, .int 0, .int 0, .int 0, .int 0, .int 0, .int 0, .int 0, .int 0, .int 0, .int 0, .long 0, .int 0, .int 0, .int 0])), (q1, .inl (k.1, 47, .inl (upd (pf tabP 24) (24 : Int32).toNatClampNeg 7169)))] := hD
  rw [pf_s (l := tabP) (j := 24) (v := 7169) 24 rfl rfl] at hP hD
  have hP : va_P D vwCl [(h0, .inr (9, [.null, .null, .int 0, .int 0, .null, .null, .null, .int 0, .int 0, .int 0, .int 0, .int 0, .int 0, .int 0, .int 0, .int 0, .int 0, .int 0, .int 0, .long 0, .int 0, .int 0, .int 0])), (q1, .inl (k.1, 47, .inl (pf tabP 25)))] H := hP
  have hD : va_D A [(h0, .inr (9, [.null, .null, .int 0, .int 0, .null, .null, .null, .int 0, .int 0, .int 0, .int 0, .int 0, .int 0, .int 0, .int 0, .int 0, .int 0, .int 0, .int 0, .long 0, .int 0, .int 0, .int 0])), (q1, .inl (k.1, 47, .inl (pf tabP 25)))] := hD
  refine lv_dup hx hb d_Mdl_init_178 rfl ?_
  refine lv_bipush (v := 25) hx hb d_Mdl_init_179 (by decide) ?_
  refine lv_sipush (v := 6145) hx hb d_Mdl_init_181 (by decide) ?_
  refine va_iast hx hb hK hP hD hS 1 0 rfl rfl (by unfold vp_in; decide +kernel) d_Mdl_init_184 (fun H locs hP hD hS => ?_)
  have hP : va_P D vwCl [(h0, .inr (9, [.null, .null, .int 0, .int 0, .null, .null, .null, .int 0, .int 0, .int 0, .int 0, .int 0, .int 0, .int 0, .int 0, .int 0, .int 0, .int 0, .int 0, .long 0, .int 0, .int 0, .int 0])), (q1, .inl (k.1, 47, .inl (upd (pf tabP 25) (25 : Int32).toNatClampNeg 6145)))] H := hP
  have hD : va_D A [(h0, .inr (9, [.null, .null, .int 0, .int 0, .null, .null, .null, .int 0, .int 0, .int 0, .int 0, .int 0, .int 0, .int 0, .int 0, .int 0, .int 0, .int 0, .int 0, .long 0, .int 0, .int 0, .int 0])), (q1, .inl (k.1, 47, .inl (upd (pf tabP 25) (25 : Int32).toNatClampNeg 6145)))] := hD
  rw [pf_s (l := tabP) (j := 25) (v := 6145) 25 rfl rfl] at hP hD
  have hP : va_P D vwCl [(h0, .inr (9, [.null, .null, .int 0, .int 0, .null, .null, .null, .int 0, .int 0, .int 0, .int 0, .int 0, .int 0, .int 0, .int 0, .int 0, .int 0, .int 0, .int 0, .long 0, .int 0, .int 0, .int 0])), (q1, .inl (k.1, 47, .inl (pf tabP 26)))] H := hP
  have hD : va_D A [(h0, .inr (9, [.null, .null, .int 0, .int 0, .null, .null, .null, .int 0, .int 0, .int 0, .int 0, .int 0, .int 0, .int 0, .int 0, .int 0, .int 0, .int 0, .int 0, .long 0, .int 0, .int 0, .int 0])), (q1, .inl (k.1, 47, .inl (pf tabP 26)))] := hD
  refine lv_dup hx hb d_Mdl_init_185 rfl ?_
  refine lv_bipush (v := 26) hx hb d_Mdl_init_186 (by decide) ?_
  refine lv_sipush (v := 5633) hx hb d_Mdl_init_188 (by decide) ?_
  refine va_iast hx hb hK hP hD hS 1 0 rfl rfl (by unfold vp_in; decide +kernel) d_Mdl_init_191 (fun H locs hP hD hS => ?_)
  have hP : va_P D vwCl [(h0, .inr (9, [.null, .null, .int 0, .int 0, .null, .null, .null, .int 0, .int 0, .int 0, .int 0, .int 0, .int 0, .int 0, .int 0, .int 0, .int 0, .int 0, .int 0, .long 0, .int 0, .int 0, .int 0])), (q1, .inl (k.1, 47, .inl (upd (pf tabP 26) (26 : Int32).toNatClampNeg 5633)))] H := hP
  have hD : va_D A [(h0, .inr (9, [.null, .null, .int 0, .int 0, .null, .null, .null, .int 0, .int 0, .int 0, .int 0, .int 0, .int 0, .int 0, .int 0, .int 0, .int 0, .int 0, .int 0, .long 0, .int 0, .int 0, .int 0])), (q1, .inl (k.1, 47, .inl (upd (pf tabP 26) (26 : Int32).toNatClampNeg 5633)))] := hD
  rw [pf_s (l := tabP) (j := 26) (v := 5633) 26 rfl rfl] at hP hD
  have hP : va_P D vwCl [(h0, .inr (9, [.null, .null, .int 0, .int 0, .null, .null, .null, .int 0, .int 0, .int 0, .int 0, .int 0, .int 0, .int 0, .int 0, .int 0, .int 0, .int 0, .int 0, .long 0, .int 0, .int 0, .int 0])), (q1, .inl (k.1, 47, .inl (pf tabP 27)))] H := hP
  have hD : va_D A [(h0, .inr (9, [.null, .null, .int 0, .int 0, .null, .null, .null, .int 0, .int 0, .int 0, .int 0, .int 0, .int 0, .int 0, .int 0, .int 0, .int 0, .int 0, .int 0, .long 0, .int 0, .int 0, .int 0])), (q1, .inl (k.1, 47, .inl (pf tabP 27)))] := hD
  refine lv_dup hx hb d_Mdl_init_192 rfl ?_
  refine lv_bipush (v := 27) hx hb d_Mdl_init_193 (by decide) ?_
  refine lv_sipush (v := 5121) hx hb d_Mdl_init_195 (by decide) ?_
  refine va_iast hx hb hK hP hD hS 1 0 rfl rfl (by unfold vp_in; decide +kernel) d_Mdl_init_198 (fun H locs hP hD hS => ?_)
  have hP : va_P D vwCl [(h0, .inr (9, [.null, .null, .int 0, .int 0, .null, .null, .null, .int 0, .int 0, .int 0, .int 0, .int 0, .int 0, .int 0, .int 0, .int 0, .int 0, .int 0, .int 0, .long 0, .int 0, .int 0, .int 0])), (q1, .inl (k.1, 47, .inl (upd (pf tabP 27) (27 : Int32).toNatClampNeg 5121)))] H := hP
  have hD : va_D A [(h0, .inr (9, [.null, .null, .int 0, .int 0, .null, .null, .null, .int 0, .int 0, .int 0, .int 0, .int 0, .int 0, .int 0, .int 0, .int 0, .int 0, .int 0, .int 0, .long 0, .int 0, .int 0, .int 0])), (q1, .inl (k.1, 47, .inl (upd (pf tabP 27) (27 : Int32).toNatClampNeg 5121)))] := hD
  rw [pf_s (l := tabP) (j := 27) (v := 5121) 27 rfl rfl] at hP hD
  have hP : va_P D vwCl [(h0, .inr (9, [.null, .null, .int 0, .int 0, .null, .null, .null, .int 0, .int 0, .int 0, .int 0, .int 0, .int 0, .int 0, .int 0, .int 0, .int 0, .int 0, .int 0, .long 0, .int 0, .int 0, .int 0])), (q1, .inl (k.1, 47, .inl (pf tabP 28)))] H := hP
  have hD : va_D A [(h0, .inr (9, [.null, .null, .int 0, .int 0, .null, .null, .null, .int 0, .int 0, .int 0, .int 0, .int 0, .int 0, .int 0, .int 0, .int 0, .int 0, .int 0, .int 0, .long 0, .int 0, .int 0, .int 0])), (q1, .inl (k.1, 47, .inl (pf tabP 28)))] := hD
  refine lv_dup hx hb d_Mdl_init_199 rfl ?_
  refine lv_bipush (v := 28) hx hb d_Mdl_init_200 (by decide) ?_
  refine lv_sipush (v := 4609) hx hb d_Mdl_init_202 (by decide) ?_
  refine va_iast hx hb hK hP hD hS 1 0 rfl rfl (by unfold vp_in; decide +kernel) d_Mdl_init_205 (fun H locs hP hD hS => ?_)
  have hP : va_P D vwCl [(h0, .inr (9, [.null, .null, .int 0, .int 0, .null, .null, .null, .int 0, .int 0, .int 0, .int 0, .int 0, .int 0, .int 0, .int 0, .int 0, .int 0, .int 0, .int 0, .long 0, .int 0, .int 0, .int 0])), (q1, .inl (k.1, 47, .inl (upd (pf tabP 28) (28 : Int32).toNatClampNeg 4609)))] H := hP
  have hD : va_D A [(h0, .inr (9, [.null, .null, .int 0, .int 0, .null, .null, .null, .int 0, .int 0, .int 0, .int 0, .int 0, .int 0, .int 0, .int 0, .int 0, .int 0, .int 0, .int 0, .long 0, .int 0, .int 0, .int 0])), (q1, .inl (k.1, 47, .inl (upd (pf tabP 28) (28 : Int32).toNatClampNeg 4609)))] := hD
  rw [pf_s (l := tabP) (j := 28) (v := 4609) 28 rfl rfl] at hP hD
  have hP : va_P D vwCl [(h0, .inr (9, [.null, .null, .int 0, .int 0, .null, .null, .null, .int 0, .int 0, .int 0, .int 0, .int 0, .int 0, .int 0, .int 0, .int 0, .int 0, .int 0, .int 0, .long 0, .int 0, .int 0, .int 0])), (q1, .inl (k.1, 47, .inl (pf tabP 29)))] H := hP
  have hD : va_D A [(h0, .inr (9, [.null, .null, .int 0, .int 0, .null, .null, .null, .int 0, .int 0, .int 0, .int 0, .int 0, .int 0, .int 0, .int 0, .int 0, .int 0, .int 0, .int 0, .long 0, .int 0, .int 0, .int 0])), (q1, .inl (k.1, 47, .inl (pf tabP 29)))] := hD
  refine lv_dup hx hb d_Mdl_init_206 rfl ?_
  refine lv_bipush (v := 29) hx hb d_Mdl_init_207 (by decide) ?_
  refine lv_sipush (v := 4353) hx hb d_Mdl_init_209 (by decide) ?_
  refine va_iast hx hb hK hP hD hS 1 0 rfl rfl (by unfold vp_in; decide +kernel) d_Mdl_init_212 (fun H locs hP hD hS => ?_)
  have hP : va_P D vwCl [(h0, .inr (9, [.null, .null, .int 0, .int 0, .null, .null, .null, .int 0, .int 0, .int 0, .int 0, .int 0, .int 0, .int 0, .int 0, .int 0, .int 0, .int 0, .int 0, .long 0, .int 0, .int 0, .int 0])), (q1, .inl (k.1, 47, .inl (upd (pf tabP 29) (29 : Int32).toNatClampNeg 4353)))] H := hP
  have hD : va_D A [(h0, .inr (9, [.null, .null, .int 0, .int 0, .null, .null, .null, .int 0, .int 0, .int 0, .int 0, .int 0, .int 0, .int 0, .int 0, .int 0, .int 0, .int 0, .int 0, .long 0, .int 0, .int 0, .int 0])), (q1, .inl (k.1, 47, .inl (upd (pf tabP 29) (29 : Int32).toNatClampNeg 4353)))] := hD
  rw [pf_s (l := tabP) (j := 29) (v := 4353) 29 rfl rfl] at hP hD
  have hP : va_P D vwCl [(h0, .inr (9, [.null, .null, .int 0, .int 0, .null, .null, .null, .int 0, .int 0, .int 0, .int 0, .int 0, .int 0, .int 0, .int 0, .int 0, .int 0, .int 0, .int 0, .long 0, .int 0, .int 0, .int 0])), (q1, .inl (k.1, 47, .inl (pf tabP 30)))] H := hP
  have hD : va_D A [(h0, .inr (9, [.null, .null, .int 0, .int 0, .null, .null, .null, .int 0, .int 0, .int 0, .int 0, .int 0, .int 0, .int 0, .int 0, .int 0, .int 0, .int 0, .int 0, .long 0, .int 0, .int 0, .int 0])), (q1, .inl (k.1, 47, .inl (pf tabP 30)))] := hD
  refine lv_dup hx hb d_Mdl_init_213 rfl ?_
  refine lv_bipush (v := 30) hx hb d_Mdl_init_214 (by decide) ?_
  refine lv_sipush (v := 2753) hx hb d_Mdl_init_216 (by decide) ?_
  refine va_iast hx hb hK hP hD hS 1 0 rfl rfl (by unfold vp_in; decide +kernel) d_Mdl_init_219 (fun H locs hP hD hS => ?_)
  have hP : va_P D vwCl [(h0, .inr (9, [.null, .null, .int 0, .int 0, .null, .null, .null, .int 0, .int 0, .int 0, .int 0, .int 0, .int 0, .int 0, .int 0, .int 0, .int 0, .int 0, .int 0, .long 0, .int 0, .int 0, .int 0])), (q1, .inl (k.1, 47, .inl (upd (pf tabP 30) (30 : Int32).toNatClampNeg 2753)))] H := hP
  have hD : va_D A [(h0, .inr (9, [.null, .null, .int 0, .int 0, .null, .null, .null, .int 0, .int 0, .int 0, .int 0, .int 0, .int 0, .int 0, .int 0, .int 0, .int 0, .int 0, .int 0, .long 0, .int 0, .int 0, .int 0])), (q1, .inl (k.1, 47, .inl (upd (pf tabP 30) (30 : Int32).toNatClampNeg 2753)))] := hD
  rw [pf_s (l := tabP) (j := 30) (v := 2753) 30 rfl rfl] at hP hD
  have hP : va_P D vwCl [(h0, .inr (9, [.null, .null, .int 0, .int 0, .null, .null, .null, .int 0, .int 0, .int 0, .int 0, .int 0, .int 0, .int 0, .int 0, .int 0, .int 0, .int 0, .int 0, .long 0, .int 0, .int 0, .int 0])), (q1, .inl (k.1, 47, .inl (pf tabP 31)))] H := hP
  have hD : va_D A [(h0, .inr (9, [.null, .null, .int 0, .int 0, .null, .null, .null, .int 0, .int 0, .int 0, .int 0, .int 0, .int 0, .int 0, .int 0, .int 0, .int 0, .int 0, .int 0, .long 0, .int 0, .int 0, .int 0])), (q1, .inl (k.1, 47, .inl (pf tabP 31)))] := hD
  refine lv_dup hx hb d_Mdl_init_220 rfl ?_
  refine lv_bipush (v := 31) hx hb d_Mdl_init_221 (by decide) ?_
  refine lv_sipush (v := 2497) hx hb d_Mdl_init_223 (by decide) ?_
  refine va_iast hx hb hK hP hD hS 1 0 rfl rfl (by unfold vp_in; decide +kernel) d_Mdl_init_226 (fun H locs hP hD hS => ?_)
  have hP : va_P D vwCl [(h0, .inr (9, [.null, .null, .int 0, .int 0, .null, .null, .null, .int 0, .int 0, .int 0, .int 0, .int 0, .int 0, .int 0, .int 0, .int 0, .int 0, .int 0, .int 0, .long 0, .int 0, .int 0, .int 0])), (q1, .inl (k.1, 47, .inl (upd (pf tabP 31) (31 : Int32).toNatClampNeg 2497)))] H := hP
  have hD : va_D A [(h0, .inr (9, [.null, .null, .int 0, .int 0, .null, .null, .null, .int 0, .int 0, .int 0, .int 0, .int 0, .int 0, .int 0, .int 0, .int 0, .int 0, .int 0, .int 0, .long 0, .int 0, .int 0, .int 0])), (q1, .inl (k.1, 47, .inl (upd (pf tabP 31) (31 : Int32).toNatClampNeg 2497)))] := hD
  rw [pf_s (l := tabP) (j := 31) (v := 2497) 31 rfl rfl] at hP hD
  have hP : va_P D vwCl [(h0, .inr (9, [.null, .null, .int 0, .int 0, .null, .null, .null, .int 0, .int 0, .int 0, .int 0, .int 0, .int 0, .int 0, .int 0, .int 0, .int 0, .int 0, .int 0, .long 0, .int 0, .int 0, .int 0])), (q1, .inl (k.1, 47, .inl (pf tabP 32)))] H := hP
  have hD : va_D A [(h0, .inr (9, [.null, .null, .int 0, .int 0, .null, .null, .null, .int 0, .int 0, .int 0, .int 0, .int 0, .int 0, .int 0, .int 0, .int 0, .int 0, .int 0, .int 0, .long 0, .int 0, .int 0, .int 0])), (q1, .inl (k.1, 47, .inl (pf tabP 32)))] := hD
  refine lv_dup hx hb d_Mdl_init_227 rfl ?_
  refine lv_bipush (v := 32) hx hb d_Mdl_init_228 (by decide) ?_
  refine lv_sipush (v := 2209) hx hb d_Mdl_init_230 (by decide) ?_
  refine va_iast hx hb hK hP hD hS 1 0 rfl rfl (by unfold vp_in; decide +kernel) d_Mdl_init_233 (fun H locs hP hD hS => ?_)
  have hP : va_P D vwCl [(h0, .inr (9, [.null, .null, .int 0, .int 0, .null, .null, .null, .int 0, .int 0, .int 0, .int 0, .int 0, .int 0, .int 0, .int 0, .int 0, .int 0, .int 0, .int 0, .long 0, .int 0, .int 0, .int 0])), (q1, .inl (k.1, 47, .inl (upd (pf tabP 32) (32 : Int32).toNatClampNeg 2209)))] H := hP
  have hD : va_D A [(h0, .inr (9, [.null, .null, .int 0, .int 0, .null, .null, .null, .int 0, .int 0, .int 0, .int 0, .int 0, .int 0, .int 0, .int 0, .int 0, .int 0, .int 0, .int 0, .long 0, .int 0, .int 0, .int 0])), (q1, .inl (k.1, 47, .inl (upd (pf tabP 32) (32 : Int32).toNatClampNeg 2209)))] := hD
  rw [pf_s (l := tabP) (j := 32) (v := 2209) 32 rfl rfl] at hP hD
  have hP : va_P D vwCl [(h0, .inr (9, [.null, .null, .int 0, .int 0, .null, .null, .null, .int 0, .int 0, .int 0, .int 0, .int 0, .int 0, .int 0, .int 0, .int 0, .int 0, .int 0, .int 0, .long 0, .int 0, .int 0, .int 0])), (q1, .inl (k.1, 47, .inl (pf tabP 33)))] H := hP
  have hD : va_D A [(h0, .inr (9, [.null, .null, .int 0, .int 0, .null, .null, .null, .int 0, .int 0, .int 0, .int 0, .int 0, .int 0, .int 0, .int 0, .int 0, .int 0, .int 0, .int 0, .long 0, .int 0, .int 0, .int 0])), (q1, .inl (k.1, 47, .inl (pf tabP 33)))] := hD
  refine lv_dup hx hb d_Mdl_init_234 rfl ?_
  refine lv_bipush (v := 33) hx hb d_Mdl_init_235 (by decide) ?_
  refine lv_sipush (v := 1313) hx hb d_Mdl_init_237 (by decide) ?_
  refine va_iast hx hb hK hP hD hS 1 0 rfl rfl (by unfold vp_in; decide +kernel) d_Mdl_init_240 (fun H locs hP hD hS => ?_)
  have hP : va_P D vwCl [(h0, .inr (9, [.null, .null, .int 0, .int 0, .null, .null, .null, .int 0, .int 0, .int 0, .int 0, .int 0, .int 0, .int 0, .int 0, .int 0, .int 0, .int 0, .int 0, .long 0, .int 0, .int 0, .int 0])), (q1, .inl (k.1, 47, .inl (upd (pf tabP 33) (33 : Int32).toNatClampNeg 1313)))] H := hP
  have hD : va_D A [(h0, .inr (9, [.null, .null, .int 0, .int 0, .null, .null, .null, .int 0, .int 0, .int 0, .int 0, .int 0, .int 0, .int 0, .int 0, .int 0, .int 0, .int 0, .int 0, .long 0, .int 0, .int 0, .int 0])), (q1, .inl (k.1, 47, .inl (upd (pf tabP 33) (33 : Int32).toNatClampNeg 1313)))] := hD
  rw [pf_s (l := tabP) (j := 33) (v := 1313) 33 rfl rfl] at hP hD
  have hP : va_P D vwCl [(h0, .inr (9, [.null, .null, .int 0, .int 0, .null, .null, .null, .int 0, .int 0, .int 0, .int 0, .int 0, .int 0, .int 0, .int 0, .int 0, .int 0, .int 0, .int 0, .long 0, .int 0, .int 0, .int 0])), (q1, .inl (k.1, 47, .inl (pf tabP 34)))] H := hP
  have hD : va_D A [(h0, .inr (9, [.null, .null, .int 0, .int 0, .null, .null, .null, .int 0, .int 0, .int 0, .int 0, .int 0, .int 0, .int 0, .int 0, .int 0, .int 0, .int 0, .int 0, .long 0, .int 0, .int 0, .int 0])), (q1, .inl (k.1, 47, .inl (pf tabP 34)))] := hD
  refine lv_dup hx hb d_Mdl_init_241 rfl ?_
  refine lv_bipush (v := 34) hx hb d_Mdl_init_242 (by decide) ?_
  refine lv_sipush (v := 1089) hx hb d_Mdl_init_244 (by decide) ?_
  refine va_iast hx hb hK hP hD hS 1 0 rfl rfl (by unfold vp_in; decide +kernel) d_Mdl_init_247 (fun H locs hP hD hS => ?_)
  have hP : va_P D vwCl [(h0, .inr (9, [.null, .null, .int 0, .int 0, .null, .null, .null, .int 0, .int 0, .int 0, .int 0, .int 0, .int 0, .int 0, .int 0, .int 0, .int 0, .int 0, .int 0, .long 0, .int 0, .int 0, .int 0])), (q1, .inl (k.1, 47, .inl (upd (pf tabP 34) (34 : Int32).toNatClampNeg 1089)))] H := hP
  have hD : va_D A [(h0, .inr (9, [.null, .null, .int 0, .int 0, .null, .null, .null, .int 0, .int 0, .int 0, .int 0, .int 0, .int 0, .int 0, .int 0, .int 0, .int 0, .int 0, .int 0, .long 0, .int 0, .int 0, .int 0])), (q1, .inl (k.1, 47, .inl (upd (pf tabP 34) (34 : Int32).toNatClampNeg 1089)))] := hD
  rw [pf_s (l := tabP) (j := 34) (v := 1089) 34 rfl rfl] at hP hD
  have hP : va_P D vwCl [(h0, .inr (9, [.null, .null, .int 0, .int 0, .null, .null, .null, .int 0, .int 0, .int 0, .int 0, .int 0, .int 0, .int 0, .int 0, .int 0, .int 0, .int 0, .int 0, .long 0, .int 0, .int 0, .int 0])), (q1, .inl (k.1, 47, .inl (pf tabP 35)))] H := hP
  have hD : va_D A [(h0, .inr (9, [.null, .null, .int 0, .int 0, .null, .null, .null, .int 0, .int 0, .int 0, .int 0, .int 0, .int 0, .int 0, .int 0, .int 0, .int 0, .int 0, .int 0, .long 0, .int 0, .int 0, .int 0])), (q1, .inl (k.1, 47, .inl (pf tabP 35)))] := hD
  refine lv_dup hx hb d_Mdl_init_248 rfl ?_
  refine lv_bipush (v := 35) hx hb d_Mdl_init_249 (by decide) ?_
  refine lv_sipush (v := 673) hx hb d_Mdl_init_251 (by decide) ?_
  refine va_iast hx hb hK hP hD hS 1 0 rfl rfl (by unfold vp_in; decide +kernel) d_Mdl_init_254 (fun H locs hP hD hS => ?_)
  have hP : va_P D vwCl [(h0, .inr (9, [.null, .null, .int 0, .int 0, .null, .null, .null, .int 0, .int 0, .int 0, .int 0, .int 0, .int 0, .int 0, .int 0, .int 0, .int 0, .int 0, .int 0, .long 0, .int 0, .int 0, .int 0])), (q1, .inl (k.1, 47, .inl (upd (pf tabP 35) (35 : Int32).toNatClampNeg 673)))] H := hP
  have hD : va_D A [(h0, .inr (9, [.null, .null, .int 0, .int 0, .null, .null, .null, .int 0, .int 0, .int 0, .int 0, .int 0, .int 0, .int 0, .int 0, .int 0, .int 0, .int 0, .int 0, .long 0, .int 0, .int 0, .int 0])), (q1, .inl (k.1, 47, .inl (upd (pf tabP 35) (35 : Int32).toNatClampNeg 673)))] := hD
  rw [pf_s (l := tabP) (j := 35) (v := 673) 35 rfl rfl] at hP hD
  have hP : va_P D vwCl [(h0, .inr (9, [.null, .null, .int 0, .int 0, .null, .null, .null, .int 0, .int 0, .int 0, .int 0, .int 0, .int 0, .int 0, .int 0, .int 0, .int 0, .int 0, .int 0, .long 0, .int 0, .int 0, .int 0])), (q1, .inl (k.1, 47, .inl (pf tabP 36)))] H := hP
  have hD : va_D A [(h0, .inr (9, [.null, .null, .int 0, .int 0, .null, .null, .null, .int 0, .int 0, .int 0, .int 0, .int 0, .int 0, .int 0, .int 0, .int 0, .int 0, .int 0, .int 0, .long 0, .int 0, .int 0, .int 0])), (q1, .inl (k.1, 47, .inl (pf tabP 36)))] := hD
  refine lv_dup hx hb d_Mdl_init_255 rfl ?_
  refine lv_bipush (v := 36) hx hb d_Mdl_init_256 (by decide) ?_
  refine lv_sipush (v := 545) hx hb d_Mdl_init_258 (by decide) ?_
  refine va_iast hx hb hK hP hD hS 1 0 rfl rfl (by unfold vp_in; decide +kernel) d_Mdl_init_261 (fun H locs hP hD hS => ?_)
  have hP : va_P D vwCl [(h0, .inr (9, [.null, .null, .int 0, .int 0, .null, .null, .null, .int 0, .int 0, .int 0, .int 0, .int 0, .int 0, .int 0, .int 0, .int 0, .int 0, .int 0, .int 0, .long 0, .int 0, .int 0, .int 0])), (q1, .inl (k.1, 47, .inl (upd (pf tabP 36) (36 : Int32).toNatClampNeg 545)))] H := hP
  have hD : va_D A [(h0, .inr (9, [.null, .null, .int 0, .int 0, .null, .null, .null, .int 0, .int 0, .int 0, .int 0, .int 0, .int 0, .int 0, .int 0, .int 0, .int 0, .int 0, .int 0, .long 0, .int 0, .int 0, .int 0])), (q1, .inl (k.1, 47, .inl (upd (pf tabP 36) (36 : Int32).toNatClampNeg 545)))] := hD
  rw [pf_s (l := tabP) (j := 36) (v := 545) 36 rfl rfl] at hP hD
  have hP : va_P D vwCl [(h0, .inr (9, [.null, .null, .int 0, .int 0, .null, .null, .null, .int 0, .int 0, .int 0, .int 0, .int 0, .int 0, .int 0, .int 0, .int 0, .int 0, .int 0, .int 0, .long 0, .int 0, .int 0, .int 0])), (q1, .inl (k.1, 47, .inl (pf tabP 37)))] H := hP
  have hD : va_D A [(h0, .inr (9, [.null, .null, .int 0, .int 0, .null, .null, .null, .int 0, .int 0, .int 0, .int 0, .int 0, .int 0, .int 0, .int 0, .int 0, .int 0, .int 0, .int 0, .long 0, .int 0, .int 0, .int 0])), (q1, .inl (k.1, 47, .inl (pf tabP 37)))] := hD
  refine lv_dup hx hb d_Mdl_init_262 rfl ?_
  refine lv_bipush (v := 37) hx hb d_Mdl_init_263 (by decide) ?_
  refine lv_sipush (v := 321) hx hb d_Mdl_init_265 (by decide) ?_
  refine va_iast hx hb hK hP hD hS 1 0 rfl rfl (by unfold vp_in; decide +kernel) d_Mdl_init_268 (fun H locs hP hD hS => ?_)
  have hP : va_P D vwCl [(h0, .inr (9, [.null, .null, .int 0, .int 0, .null, .null, .null, .int 0, .int 0, .int 0, .int 0, .int 0, .int 0, .int 0, .int 0, .int 0, .int 0, .int 0, .int 0, .long 0, .int 0, .int 0, .int 0])), (q1, .inl (k.1, 47, .inl (upd (pf tabP 37) (37 : Int32).toNatClampNeg 321)))] H := hP
  have hD : va_D A [(h0, .inr (9, [.null, .null, .int 0, .int 0, .null, .null, .null, .int 0, .int 0, .int 0, .int 0, .int 0, .int 0, .int 0, .int 0, .int 0, .int 0, .int 0, .int 0, .long 0, .int 0, .int 0, .int 0])), (q1, .inl (k.1, 47, .inl (upd (pf tabP 37) (37 : Int32).toNatClampNeg 321)))] := hD
  rw [pf_s (l := tabP) (j := 37) (v := 321) 37 rfl rfl] at hP hD
  have hP : va_P D vwCl [(h0, .inr (9, [.null, .null, .int 0, .int 0, .null, .null, .null, .int 0, .int 0, .int 0, .int 0, .int 0, .int 0, .int 0, .int 0, .int 0, .int 0, .int 0, .int 0, .long 0, .int 0, .int 0, .int 0])), (q1, .inl (k.1, 47, .inl (pf tabP 38)))] H := hP
  have hD : va_D A [(h0, .inr (9, [.null, .null, .int 0, .int 0, .null, .null, .null, .int 0, .int 0, .int 0, .int 0, .int 0, .int 0, .int 0, .int 0, .int 0, .int 0, .int 0, .int 0, .long 0, .int 0, .int 0, .int 0])), (q1, .inl (k.1, 47, .inl (pf tabP 38)))] := hD
  refine lv_dup hx hb d_Mdl_init_269 rfl ?_
  refine lv_bipush (v := 38) hx hb d_Mdl_init_270 (by decide) ?_
  refine lv_sipush (v := 273) hx hb d_Mdl_init_272 (by decide) ?_
  refine va_iast hx hb hK hP hD hS 1 0 rfl rfl (by unfold vp_in; decide +kernel) d_Mdl_init_275 (fun H locs hP hD hS => ?_)
  have hP : va_P D vwCl [(h0, .inr (9, [.null, .null, .int 0, .int 0, .null, .null, .null, .int 0, .int 0, .int 0, .int 0, .int 0, .int 0, .int 0, .int 0, .int 0, .int 0, .int 0, .int 0, .long 0, .int 0, .int 0, .int 0])), (q1, .inl (k.1, 47, .inl (upd (pf tabP 38) (38 : Int32).toNatClampNeg 273)))] H := hP
  have hD : va_D A [(h0, .inr (9, [.null, .null, .int 0, .int 0, .null, .null, .null, .int 0, .int 0, .int 0, .int 0, .int 0, .int 0, .int 0, .int 0, .int 0, .int 0, .int 0, .int 0, .long 0, .int 0, .int 0, .int 0])), (q1, .inl (k.1, 47, .inl (upd (pf tabP 38) (38 : Int32).toNatClampNeg 273)))] := hD
  rw [pf_s (l := tabP) (j := 38) (v := 273) 38 rfl rfl] at hP hD
  have hP : va_P D vwCl [(h0, .inr (9, [.null, .null, .int 0, .int 0, .null, .null, .null, .int 0, .int 0, .int 0, .int 0, .int 0, .int 0, .int 0, .int 0, .int 0, .int 0, .int 0, .int 0, .long 0, .int 0, .int 0, .int 0])), (q1, .inl (k.1, 47, .inl (pf tabP 39)))] H := hP
  have hD : va_D A [(h0, .inr (9, [.null, .null, .int 0, .int 0, .null, .null, .null, .int 0, .int 0, .int 0, .int 0, .int 0, .int 0, .int 0, .int 0, .int 0, .int 0, .int 0, .int 0, .long 0, .int 0, .int 0, .int 0])), (q1, .inl (k.1, 47, .inl (pf tabP 39)))] := hD
  refine lv_dup hx hb d_Mdl_init_276 rfl ?_
  refine lv_bipush (v := 39) hx hb d_Mdl_init_277 (by decide) ?_
  refine lv_sipush (v := 133) hx hb d_Mdl_init_279 (by decide) ?_
  refine va_iast hx hb hK hP hD hS 1 0 rfl rfl (by unfold vp_in; decide +kernel) d_Mdl_init_282 (fun H locs hP hD hS => ?_)
  have hP : va_P D vwCl [(h0, .inr (9, [.null, .null, .int 0, .int 0, .null, .null, .null, .int 0, .int 0, .int 0, .int 0, .int 0, .int 0, .int 0, .int 0, .int 0, .int 0, .int 0, .int 0, .long 0, .int 0, .int 0, .int 0])), (q1, .inl (k.1, 47, .inl (upd (pf tabP 39) (39 : Int32).toNatClampNeg 133)))] H := hP
  have hD : va_D A [(h0, .inr (9, [.null, .null, .int 0, .int 0, .null, .null, .null, .int 0, .int 0, .int 0, .int 0, .int 0, .int 0, .int 0, .int 0, .int 0, .int 0, .int 0, .int 0, .long 0, .int 0, .int 0, .int 0])), (q1, .inl (k.1, 47, .inl (upd (pf tabP 39) (39 : Int32).toNatClampNeg 133)))] := hD
  rw [pf_s (l := tabP) (j := 39) (v := 133) 39 rfl rfl] at hP hD
  have hP : va_P D vwCl [(h0, .inr (9, [.null, .null, .int 0, .int 0, .null, .null, .null, .int 0, .int 0, .int 0, .int 0, .int 0, .int 0, .int 0, .int 0, .int 0, .int 0, .int 0, .int 0, .long 0, .int 0, .int 0, .int 0])), (q1, .inl (k.1, 47, .inl (pf tabP 40)))] H := hP
  have hD : va_D A [(h0, .inr (9, [.null, .null, .int 0, .int 0, .null, .null, .null, .int 0, .int 0, .int 0, .int 0, .int 0, .int 0, .int 0, .int 0, .int 0, .int 0, .int 0, .int 0, .long 0, .int 0, .int 0, .int 0])), (q1, .inl (k.1, 47, .inl (pf tabP 40)))] := hD
  refine lv_dup hx hb d_Mdl_init_283 rfl ?_
  refine lv_bipush (v := 40) hx hb d_Mdl_init_284 (by decide) ?_
  refine lv_bipush (v := 73) hx hb d_Mdl_init_286 (by decide) ?_
  refine va_iast hx hb hK hP hD hS 1 0 rfl rfl (by unfold vp_in; decide +kernel) d_Mdl_init_288 (fun H locs hP hD hS => ?_)
  have hP : va_P D vwCl [(h0, .inr (9, [.null, .null, .int 0, .int 0, .null, .null, .null, .int 0, .int 0, .int 0, .int 0, .int 0, .int 0, .int 0, .int 0, .int 0, .int 0, .int 0, .int 0, .long 0, .int 0, .int 0, .int 0])), (q1, .inl (k.1, 47, .inl (upd (pf tabP 40) (40 : Int32).toNatClampNeg 73)))] H := hP
  have hD : va_D A [(h0, .inr (9, [.null, .null, .int 0, .int 0, .null, .null, .null, .int 0, .int 0, .int 0, .int 0, .int 0, .int 0, .int 0, .int 0, .int 0, .int 0, .int 0, .int 0, .long 0, .int 0, .int 0, .int 0])), (q1, .inl (k.1, 47, .inl (upd (pf tabP 40) (40 : Int32).toNatClampNeg 73)))] := hD
  rw [pf_s (l := tabP) (j := 40) (v := 73) 40 rfl rfl] at hP hD
  have hP : va_P D vwCl [(h0, .inr (9, [.null, .null, .int 0, .int 0, .null, .null, .null, .int 0, .int 0, .int 0, .int 0, .int 0, .int 0, .int 0, .int 0, .int 0, .int 0, .int 0, .int 0, .long 0, .int 0, .int 0, .int 0])), (q1, .inl (k.1, 47, .inl (pf tabP 41)))] H := hP
  have hD : va_D A [(h0, .inr (9, [.null, .null, .int 0, .int 0, .null, .null, .null, .int 0, .int 0, .int 0, .int 0, .int 0, .int 0, .int 0, .int 0, .int 0, .int 0, .int 0, .int 0, .long 0, .int 0, .int 0, .int 0])), (q1, .inl (k.1, 47, .inl (pf tabP 41)))] := hD
  refine lv_dup hx hb d_Mdl_init_289 rfl ?_
  refine lv_bipush (v := 41) hx hb d_Mdl_init_290 (by decide) ?_
  refine lv_bipush (v := 37) hx hb d_Mdl_init_292 (by decide) ?_
  refine va_iast hx hb hK hP hD hS 1 0 rfl rfl (by unfold vp_in; decide +kernel) d_Mdl_init_294 (fun H locs hP hD hS => ?_)
  have hP : va_P D vwCl [(h0, .inr (9, [.null, .null, .int 0, .int 0, .null, .null, .null, .int 0, .int 0, .int 0, .int 0, .int 0, .int 0, .int 0, .int 0, .int 0, .int 0, .int 0, .int 0, .long 0, .int 0, .int 0, .int 0])), (q1, .inl (k.1, 47, .inl (upd (pf tabP 41) (41 : Int32).toNatClampNeg 37)))] H := hP
  have hD : va_D A [(h0, .inr (9, [.null, .null, .int 0, .int 0, .null, .null, .null, .int 0, .int 0, .int 0, .int 0, .int 0, .int 0, .int 0, .int 0, .int 0, .int 0, .int 0, .int 0, .long 0, .int 0, .int 0, .int 0])), (q1, .inl (k.1, 47, .inl (upd (pf tabP 41) (41 : Int32).toNatClampNeg 37)))] := hD
  rw [pf_s (l := tabP) (j := 41) (v := 37) 41 rfl rfl] at hP hD
  have hP : va_P D vwCl [(h0, .inr (9, [.null, .null, .int 0, .int 0, .null, .null, .null, .int 0, .int 0, .int 0, .int 0, .int 0, .int 0, .int 0, .int 0, .int 0, .int 0, .int 0, .int 0, .long 0, .int 0, .int 0, .int 0])), (q1, .inl (k.1, 47, .inl (pf tabP 42)))] H := hP
  have hD : va_D A [(h0, .inr (9, [.null, .null, .int 0, .int 0, .null, .null, .null, .int 0, .int 0, .int 0, .int 0, .int 0, .int 0, .int 0, .int 0, .int 0, .int 0, .int 0, .int 0, .long 0, .int 0, .int 0, .int 0])), (q1, .inl (k.1, 47, .inl (pf tabP 42)))] := hD
  refine lv_dup hx hb d_Mdl_init_295 rfl ?_
  refine lv_bipush (v := 42) hx hb d_Mdl_init_296 (by decide) ?_
  refine lv_bipush (v := 21) hx hb d_Mdl_init_298 (by decide) ?_
  refine va_iast hx hb hK hP hD hS 1 0 rfl rfl (by unfold vp_in; decide +kernel) d_Mdl_init_300 (fun H locs hP hD hS => ?_)
  have hP : va_P D vwCl [(h0, .inr (9, [.null, .null, .int 0, .int 0, .null, .null, .null, .int 0, .int 0, .int 0, .int 0, .int 0, .int 0, .int 0, .int 0, .int 0, .int 0, .int 0, .int 0, .long 0, .int 0, .int 0, .int 0])), (q1, .inl (k.1, 47, .inl (upd (pf tabP 42) (42 : Int32).toNatClampNeg 21)))] H := hP
  have hD : va_D A [(h0, .inr (9, [.null, .null, .int 0, .int 0, .null, .null, .null, .int 0, .int 0, .int 0, .int 0, .int 0, .int 0, .int 0, .int 0, .int 0, .int 0, .int 0, .int 0, .long 0, .int 0, .int 0, .int 0])), (q1, .inl (k.1, 47, .inl (upd (pf tabP 42) (42 : Int32).toNatClampNeg 21)))] := hD
  rw [pf_s (l := tabP) (j := 42) (v := 21) 42 rfl rfl] at hP hD
  have hP : va_P D vwCl [(h0, .inr (9, [.null, .null, .int 0, .int 0, .null, .null, .null, .int 0, .int 0, .int 0, .int 0, .int 0, .int 0, .int 0, .int 0, .int 0, .int 0, .int 0, .int 0, .long 0, .int 0, .int 0, .int 0])), (q1, .inl (k.1, 47, .inl (pf tabP 43)))] H := hP
  have hD : va_D A [(h0, .inr (9, [.null, .null, .int 0, .int 0, .null, .null, .null, .int 0, .int 0, .int 0, .int 0, .int 0, .int 0, .int 0, .int 0, .int 0, .int 0, .int 0, .int 0, .long 0, .int 0, .int 0, .int 0])), (q1, .inl (k.1, 47, .inl (pf tabP 43)))] := hD
  refine lv_dup hx hb d_Mdl_init_301 rfl ?_
  refine lv_bipush (v := 43) hx hb d_Mdl_init_302 (by decide) ?_
  refine lv_bipush (v := 9) hx hb d_Mdl_init_304 (by decide) ?_
  refine va_iast hx hb hK hP hD hS 1 0 rfl rfl (by unfold vp_in; decide +kernel) d_Mdl_init_306 (fun H locs hP hD hS => ?_)
  have hP : va_P D vwCl [(h0, .inr (9, [.null, .null, .int 0, .int 0, .null, .null, .null, .int 0, .int 0, .int 0, .int 0, .int 0, .int 0, .int 0, .int 0, .int 0, .int 0, .int 0, .int 0, .long 0, .int 0, .int 0, .int 0])), (q1, .inl (k.1, 47, .inl (upd (pf tabP 43) (43 : Int32).toNatClampNeg 9)))] H := hP
  have hD : va_D A [(h0, .inr (9, [.null, .null, .int 0, .int 0, .null, .null, .null, .int 0, .int 0, .int 0, .int 0, .int 0, .int 0, .int 0, .int 0, .int 0, .int 0, .int 0, .int 0, .long 0, .int 0, .int 0, .int 0])), (q1, .inl (k.1, 47, .inl (upd (pf tabP 43) (43 : Int32).toNatClampNeg 9)))] := hD
  rw [pf_s (l := tabP) (j := 43) (v := 9) 43 rfl rfl] at hP hD
  have hP : va_P D vwCl [(h0, .inr (9, [.null, .null, .int 0, .int 0, .null, .null, .null, .int 0, .int 0, .int 0, .int 0, .int 0, .int 0, .int 0, .int 0, .int 0, .int 0, .int 0, .int 0, .long 0, .int 0, .int 0, .int 0])), (q1, .inl (k.1, 47, .inl (pf tabP 44)))] H := hP
  have hD : va_D A [(h0, .inr (9, [.null, .null, .int 0, .int 0, .null, .null, .null, .int 0, .int 0, .int 0, .int 0, .int 0, .int 0, .int 0, .int 0, .int 0, .int 0, .int 0, .int 0, .long 0, .int 0, .int 0, .int 0])), (q1, .inl (k.1, 47, .inl (pf tabP 44)))] := hD
  refine lv_dup hx hb d_Mdl_init_307 rfl ?_
  refine lv_bipush (v := 44) hx hb d_Mdl_init_308 (by decide) ?_
  refine lv_iconst (v := 5) hx hb d_Mdl_init_310 (by decide) ?_
  refine va_iast hx hb hK hP hD hS 1 0 rfl rfl (by unfold vp_in; decide +kernel) d_Mdl_init_311 (fun H locs hP hD hS => ?_)
  have hP : va_P D vwCl [(h0, .inr (9, [.null, .null, .int 0, .int 0, .null, .null, .null, .int 0, .int 0, .int 0, .int 0, .int 0, .int 0, .int 0, .int 0, .int 0, .int 0, .int 0, .int 0, .long 0, .int 0, .int 0, .int 0])), (q1, .inl (k.1, 47, .inl (upd (pf tabP 44) (44 : Int32).toNatClampNeg 5)))] H := hP
  have hD : va_D A [(h0, .inr (9, [.null, .null, .int 0, .int 0, .null, .null, .null, .int 0, .int 0, .int 0, .int 0, .int 0, .int 0, .int 0, .int 0, .int 0, .int 0, .int 0, .int 0, .long 0, .int 0, .int 0, .int 0])), (q1, .inl (k.1, 47, .inl (upd (pf tabP 44) (44 : Int32).toNatClampNeg 5)))] := hD
  rw [pf_s (l := tabP) (j := 44) (v := 5) 44 rfl rfl] at hP hD
  have hP : va_P D vwCl [(h0, .inr (9, [.null, .null, .int 0, .int 0, .null, .null, .null, .int 0, .int 0, .int 0, .int 0, .int 0, .int 0, .int 0, .int 0, .int 0, .int 0, .int 0, .int 0, .long 0, .int 0, .int 0, .int 0])), (q1, .inl (k.1, 47, .inl (pf tabP 45)))] H := hP
  have hD : va_D A [(h0, .inr (9, [.null, .null, .int 0, .int 0, .null, .null, .null, .int 0, .int 0, .int 0, .int 0, .int 0, .int 0, .int 0, .int 0, .int 0, .int 0, .int 0, .int 0, .long 0, .int 0, .int 0, .int 0])), (q1, .inl (k.1, 47, .inl (pf tabP 45)))] := hD
  refine lv_dup hx hb d_Mdl_init_312 rfl ?_
  refine lv_bipush (v := 45) hx hb d_Mdl_init_313 (by decide) ?_
  refine lv_iconst (v := 1) hx hb d_Mdl_init_315 (by decide) ?_
  refine va_iast hx hb hK hP hD hS 1 0 rfl rfl (by unfold vp_in; decide +kernel) d_Mdl_init_316 (fun H locs hP hD hS => ?_)
  have hP : va_P D vwCl [(h0, .inr (9, [.null, .null, .int 0, .int 0, .null, .null, .null, .int 0, .int 0, .int 0, .int 0, .int 0, .int 0, .int 0, .int 0, .int 0, .int 0, .int 0, .int 0, .long 0, .int 0, .int 0, .int 0])), (q1, .inl (k.1, 47, .inl (upd (pf tabP 45) (45 : Int32).toNatClampNeg 1)))] H := hP
  have hD : va_D A [(h0, .inr (9, [.null, .null, .int 0, .int 0, .null, .null, .null, .int 0, .int 0, .int 0, .int 0, .int 0, .int 0, .int 0, .int 0, .int 0, .int 0, .int 0, .int 0, .long 0, .int 0, .int 0, .int 0])), (q1, .inl (k.1, 47, .inl (upd (pf tabP 45) (45 : Int32).toNatClampNeg 1)))] := hD
  rw [pf_s (l := tabP) (j := 45) (v := 1) 45 rfl rfl] at hP hD
  have hP : va_P D vwCl [(h0, .inr (9, [.null, .null, .int 0, .int 0, .null, .null, .null, .int 0, .int 0, .int 0, .int 0, .int 0, .int 0, .int 0, .int 0, .int 0, .int 0, .int 0, .int 0, .long 0, .int 0, .int 0, .int 0])), (q1, .inl (k.1, 47, .inl (pf tabP 46)))] H := hP
  have hD : va_D A [(h0, .inr (9, [.null, .null, .int 0, .int 0, .null, .null, .null, .int 0, .int 0, .int 0, .int 0, .int 0, .int 0, .int 0, .int 0, .int 0, .int 0, .int 0, .int 0, .long 0, .int 0, .int 0, .int 0])), (q1, .inl (k.1, 47, .inl (pf tabP 46)))] := hD
  refine lv_dup hx hb d_Mdl_init_317 rfl ?_
  refine lv_bipush (v := 46) hx hb d_Mdl_init_318 (by decide) ?_
  refine lv_sipush (v := 22017) hx hb d_Mdl_init_320 (by decide) ?_
  refine va_iast hx hb hK hP hD hS 1 0 rfl rfl (by unfold vp_in; decide +kernel) d_Mdl_init_323 (fun H locs hP hD hS => ?_)
  have hP : va_P D vwCl [(h0, .inr (9, [.null, .null, .int 0, .int 0, .null, .null, .null, .int 0, .int 0, .int 0, .int 0, .int 0, .int 0, .int 0, .int 0, .int 0, .int 0, .int 0, .int 0, .long 0, .int 0, .int 0, .int 0])), (q1, .inl (k.1, 47, .inl (upd (pf tabP 46) (46 : Int32).toNatClampNeg 22017)))] H := hP
  have hD : va_D A [(h0, .inr (9, [.null, .null, .int 0, .int 0, .null, .null, .null, .int 0, .int 0, .int 0, .int 0, .int 0, .int 0, .int 0, .int 0, .int 0, .int 0, .int 0, .int 0, .long 0, .int 0, .int 0, .int 0])), (q1, .inl (k.1, 47, .inl (upd (pf tabP 46) (46 : Int32).toNatClampNeg 22017)))] := hD
  rw [pf_s (l := tabP) (j := 46) (v := 22017) 46 rfl rfl] at hP hD
  rw [show pf tabP (46 + 1) = tfP from pf_P] at hP hD
  have hP : va_P D vwCl [(h0, .inr (9, [.null, .null, .int 0, .int 0, .null, .null, .null, .int 0, .int 0, .int 0, .int 0, .int 0, .int 0, .int 0, .int 0, .int 0, .int 0, .int 0, .int 0, .long 0, .int 0, .int 0, .int 0])), (q1, .inl (k.1, 47, .inl tfP))] H := hP
  have hD : va_D A [(h0, .inr (9, [.null, .null, .int 0, .int 0, .null, .null, .null, .int 0, .int 0, .int 0, .int 0, .int 0, .int 0, .int 0, .int 0, .int 0, .int 0, .int 0, .int 0, .long 0, .int 0, .int 0, .int 0])), (q1, .inl (k.1, 47, .inl tfP))] := hD
  refine va_putF (D := D) (ci := 9) (v := .ref q1) (ty := .array .int) (C := R_Mdl) (T := T_Mdl) (N := 23) hx hb hts inw_Mdl ty_Mdl tyok_Mdl nm_Mdl hown hK hP hD hS 0 rfl rfl 0 (by decide) (hts (.fieldLink R_Mdl 7 "LikelyBitsModel" "part" "[I") mw_381) (fun _ h9 => h9) rfl hin rfl (by decide +kernel) rfl rfl (Nat.le_of_ble_eq_true rfl) d_Mdl_init_324 (fun H locs hP hD hS => ?_)
  have hP : va_P D vwCl [(h0, .inr (9, [.ref q1, .null, .int 0, .int 0, .null, .null, .null, .int 0, .int 0, .int 0, .int 0, .int 0, .int 0, .int 0, .int 0, .int 0, .int 0, .int 0, .int 0, .long 0, .int 0, .int 0, .int 0])), (q1, .inl (k.1, 47, .inl tfP))] H := hP
  have hD : va_D A [(h0, .inr (9, [.ref q1, .null, .int 0, .int 0, .null, .null, .null, .int 0, .int 0, .int 0, .int 0, .int 0, .int 0, .int 0, .int 0, .int 0, .int 0, .int 0, .int 0, .long 0, .int 0, .int 0, .int 0])), (q1, .inl (k.1, 47, .inl tfP))] := hD
  refine lv_aload_n hx hb d_Mdl_init_327 rfl (lv_at hl 0 rfl) ?_
  refine lv_bipush (v := 47) hx hb d_Mdl_init_328 (by decide) ?_
  refine va_newa (atype := .int) (ty := .int) (N' := 47) (a0 := (47, .inl (fun _ => 0))) hx hb (hts (.arrayClass .int) mw_5) rfl hK hP hD hS hA (ha_int 47) (by decide +kernel) (by decide +kernel) (by decide +kernel) (by first | omega | (dsimp only; omega)) (by first | omega | (dsimp only; omega)) d_Mdl_init_330 (fun q2 cA H hK1 hP hD hS => ?_)
  have ecA := newa_int hK1
  subst ecA
  have hP : va_P D vwCl [(h0, .inr (9, [.ref q1, .null, .int 0, .int 0, .null, .null, .null, .int 0, .int 0, .int 0, .int 0, .int 0, .int 0, .int 0, .int 0, .int 0, .int 0, .int 0, .int 0, .long 0, .int 0, .int 0, .int 0])), (q1, .inl (k.1, 47, .inl tfP)), (q2, .inl (k.1, 47, .inl (fun _ => 0)))] H := hP
  have hD : va_D A [(h0, .inr (9, [.ref q1, .null, .int 0, .int 0, .null, .null, .null, .int 0, .int 0, .int 0, .int 0, .int 0, .int 0, .int 0, .int 0, .int 0, .int 0, .int 0, .int 0, .long 0, .int 0, .int 0, .int 0])), (q1, .inl (k.1, 47, .inl tfP)), (q2, .inl (k.1, 47, .inl (fun _ => 0)))] := hD
  rw [pf_0 tabO] at hP hD
  have hP : va_P D vwCl [(h0, .inr (9, [.ref q1, .null, .int 0, .int 0, .null, .null, .null, .int 0, .int 0, .int 0, .int 0, .int 0, .int 0, .int 0, .int 0, .int 0, .int 0, .int 0, .int 0, .long 0, .int 0, .int 0, .int 0])), (q1, .inl (k.1, 47, .inl tfP)), (q2, .inl (k.1, 47, .inl (pf tabO 0)))] H := hP
  have hD : va_D A [(h0, .inr (9, [.ref q1, .null, .int 0, .int 0, .null, .null, .null, .int 0, .int 0, .int 0, .int 0, .int 0, .int 0, .int 0, .int 0, .int 0, .int 0, .int 0, .int 0, .long 0, .int 0, .int 0, .int 0])), (q1, .inl (k.1, 47, .inl tfP)), (q2, .inl (k.1, 47, .inl (pf tabO 0)))] := hD
  refine lv_dup hx hb d_Mdl_init_332 rfl ?_
  refine lv_iconst (v := 0) hx hb d_Mdl_init_333 (by decide) ?_
  refine lv_iconst (v := 1) hx hb d_Mdl_init_334 (by decide) ?_
  refine va_iast hx hb hK hP hD hS 2 0 rfl rfl (by unfold vp_in; decide +kernel) d_Mdl_init_335 (fun H locs hP hD hS => ?_)
  have hP : va_P D vwCl [(h0, .inr (9, [.ref q1, .null, .int 0, .int 0, .null, .null, .null, .int 0, .int 0, .int 0, .int 0, .int 0, .int 0, .int 0, .int 0, .int 0, .int 0, .int 0, .int 0, .long 0, .int 0, .int 0, .int 0])), (q1, .inl (k.1, 47, .inl tfP)), (q2, .inl (k.1, 47, .inl (upd (pf tabO 0) (0 : Int32).toNatClampNeg 1)))] H := hP
  have hD : va_D A [(h0, .inr (9, [.ref q1, .null, .int 0, .int 0, .null, .null, .null, .int 0, .int 0, .int 0, .int 0, .int 0, .int 0, .int 0, .int 0, .int 0, .int 0, .int 0, .int 0, .long 0, .int 0, .int 0, .int 0])), (q1, .inl (k.1, 47, .inl tfP)), (q2, .inl (k.1, 47, .inl (upd (pf tabO 0) (0 : Int32).toNatClampNeg 1)))] := hD
  rw [pf_s (l := tabO) (j := 0) (v := 1) 0 rfl rfl] at hP hD
  have hP : va_P D vwCl [(h0, .inr (9, [.ref q1, .null, .int 0, .int 0, .null, .null, .null, .int 0, .int 0, .int 0, .int 0, .int 0, .int 0, .int 0, .int 0, .int 0, .int 0, .int 0, .int 0, .long 0, .int 0, .int 0, .int 0])), (q1, .inl (k.1, 47, .inl tfP)), (q2, .inl (k.1, 47, .inl (pf tabO 1)))] H := hP
  have hD : va_D A [(h0, .inr (9, [.ref q1, .null, .int 0, .int 0, .null, .null, .null, .int 0, .int 0, .int 0, .int 0, .int 0, .int 0, .int 0, .int 0, .int 0, .int 0, .int 0, .int 0, .long 0, .int 0, .int 0, .int 0])), (q1, .inl (k.1, 47, .inl tfP)), (q2, .inl (k.1, 47, .inl (pf tabO 1)))] := hD
  refine lv_dup hx hb d_Mdl_init_336 rfl ?_
  refine lv_iconst (v := 1) hx hb d_Mdl_init_337 (by decide) ?_
  refine lv_bipush (v := 6) hx hb d_Mdl_init_338 (by decide) ?_
  refine va_iast hx hb hK hP hD hS 2 0 rfl rfl (by unfold vp_in; decide +kernel) d_Mdl_init_340 (fun H locs hP hD hS => ?_)
  have hP : va_P D vwCl [(h0, .inr (9, [.ref q1, .null, .int 0, .int 0, .null, .null, .null, .int 0, .int 0, .int 0, .int 0, .int 0, .int 0, .int 0, .int 0, .int 0, .int 0, .int 0, .int 0, .long 0, .int 0, .int 0, .int 0])), (q1, .inl (k.1, 47, .inl tfP)), (q2, .inl (k.1, 47, .inl (upd (pf tabO 1) (1 : Int32).toNatClampNeg 6)))] H := hP
  have hD : va_D A [(h0, .inr (9, [.ref q1, .null, .int 0, .int 0, .null, .null, .null, .int 0, .int 0, .int 0, .int 0, .int 0, .int 0, .int 0, .int 0, .int 0, .int 0, .int 0, .int 0, .long 0, .int 0, .int 0, .int 0])), (q1, .inl (k.1, 47, .inl tfP)), (q2, .inl (k.1, 47, .inl (upd (pf tabO 1) (1 : Int32).toNatClampNeg 6)))] := hD
  rw [pf_s (l := tabO) (j := 1) (v := 6) 1 rfl rfl] at hP hD
  have hP : va_P D vwCl [(h0, .inr (9, [.ref q1, .null, .int 0, .int 0, .null, .null, .null, .int 0, .int 0, .int 0, .int 0, .int 0, .int 0, .int 0, .int 0, .int 0, .int 0, .int 0, .int 0, .long 0, .int 0, .int 0, .int 0])), (q1, .inl (k.1, 47, .inl tfP)), (q2, .inl (k.1, 47, .inl (pf tabO 2)))] H := hP
  have hD : va_D A [(h0, .inr (9, [.ref q1, .null, .int 0, .int 0, .null, .null, .null, .int 0, .int 0, .int 0, .int 0, .int 0, .int 0, .int 0, .int 0, .int 0, .int 0, .int 0, .int 0, .long 0, .int 0, .int 0, .int 0])), (q1, .inl (k.1, 47, .inl tfP)), (q2, .inl (k.1, 47, .inl (pf tabO 2)))] := hD
  refine lv_dup hx hb d_Mdl_init_341 rfl ?_
  refine lv_iconst (v := 2) hx hb d_Mdl_init_342 (by decide) ?_
  refine lv_bipush (v := 9) hx hb d_Mdl_init_343 (by decide) ?_
  refine va_iast hx hb hK hP hD hS 2 0 rfl rfl (by unfold vp_in; decide +kernel) d_Mdl_init_345 (fun H locs hP hD hS => ?_)
  have hP : va_P D vwCl [(h0, .inr (9, [.ref q1, .null, .int 0, .int 0, .null, .null, .null, .int 0, .int 0, .int 0, .int 0, .int 0, .int 0, .int 0, .int 0, .int 0, .int 0, .int 0, .int 0, .long 0, .int 0, .int 0, .int 0])), (q1, .inl (k.1, 47, .inl tfP)), (q2, .inl (k.1, 47, .inl (upd (pf tabO 2) (2 : Int32).toNatClampNeg 9)))] H := hP
  have hD : va_D A [(h0, .inr (9, [.ref q1, .null, .int 0, .int 0, .null, .null, .null, .int 0, .int 0, .int 0, .int 0, .int 0, .int 0, .int 0, .int 0, .int 0, .int 0, .int 0, .int 0, .long 0, .int 0, .int 0, .int 0])), (q1, .inl (k.1, 47, .inl tfP)), (q2, .inl (k.1, 47, .inl (upd (pf tabO 2) (2 : Int32).toNatClampNeg 9)))] := hD
  rw [pf_s (l := tabO) (j := 2) (v := 9) 2 rfl rfl] at hP hD
  have hP : va_P D vwCl [(h0, .inr (9, [.ref q1, .null, .int 0, .int 0, .null, .null, .null, .int 0, .int 0, .int 0, .int 0, .int 0, .int 0, .int 0, .int 0, .int 0, .int 0, .int 0, .int 0, .long 0, .int 0, .int 0, .int 0])), (q1, .inl (k.1, 47, .inl tfP)), (q2, .inl (k.1, 47, .inl (pf tabO 3)))] H := hP
  have hD : va_D A [(h0, .inr (9, [.ref q1, .null, .int 0, .int 0, .null, .null, .null, .int 0, .int 0, .int 0, .int 0, .int 0, .int 0, .int 0, .int 0, .int 0, .int 0, .int 0, .int 0, .long 0, .int 0, .int 0, .int 0])), (q1, .inl (k.1, 47, .inl tfP)), (q2, .inl (k.1, 47, .inl (pf tabO 3)))] := hD
  refine lv_dup hx hb d_Mdl_init_346 rfl ?_
  refine lv_iconst (v := 3) hx hb d_Mdl_init_347 (by decide) ?_
  refine lv_bipush (v := 12) hx hb d_Mdl_init_348 (by decide) ?_
  refine va_iast hx hb hK hP hD hS 2 0 rfl rfl (by unfold vp_in; decide +kernel) d_Mdl_init_350 (fun H locs hP hD hS => ?_)
  have hP : va_P D vwCl [(h0, .inr (9, [.ref q1, .null, .int 0, .int 0, .null, .null, .null, .int 0, .int 0, .int 0, .int 0, .int 0, .int 0, .int 0, .int 0, .int 0, .int 0, .int 0, .int 0, .long 0, .int 0, .int 0, .int 0])), (q1, .inl (k.1, 47, .inl tfP)), (q2, .inl (k.1, 47, .inl (upd (pf tabO 3) (3 : Int32).toNatClampNeg 12)))] H := hP
  have hD : va_D A [(h0, .inr (9, [.ref q1, .null, .int 0, .int 0, .null, .null, .null, .int 0, .int 0, .int 0, .int 0, .int 0, .int 0, .int 0, .int 0, .int 0, .int 0, .int 0, .int 0, .long 0, .int 0, .int 0, .int 0])), (q1, .inl (k.1, 47, .inl tfP)), (q2, .inl (k.1, 47, .inl (upd (pf tabO 3) (3 : Int32).toNatClampNeg 12)))] := hD
  rw [pf_s (l := tabO) (j := 3) (v := 12) 3 rfl rfl] at hP hD
  have hP : va_P D vwCl [(h0, .inr (9, [.ref q1, .null, .int 0, .int 0, .null, .null, .null, .int 0, .int 0, .int 0, .int 0, .int 0, .int 0, .int 0, .int 0, .int 0, .int 0, .int 0, .int 0, .long 0, .int 0, .int 0, .int 0])), (q1, .inl (k.1, 47, .inl tfP)), (q2, .inl (k.1, 47, .inl (pf tabO 4)))] H := hP
  have hD : va_D A [(h0, .inr (9, [.ref q1, .null, .int 0, .int 0, .null, .null, .null, .int 0, .int 0, .int 0, .int 0, .int 0, .int 0, .int 0, .int 0, .int 0, .int 0, .int 0, .int 0, .long 0, .int 0, .int 0, .int 0])), (q1, .inl (k.1, 47, .inl tfP)), (q2, .inl (k.1, 47, .inl (pf tabO 4)))] := hD
  refine lv_dup hx hb d_Mdl_init_351 rfl ?_
  refine lv_iconst (v := 4) hx hb d_Mdl_init_352 (by decide) ?_
  refine lv_bipush (v := 29) hx hb d_Mdl_init_353 (by decide) ?_
  refine va_iast hx hb hK hP hD hS 2 0 rfl rfl (by unfold vp_in; decide +kernel) d_Mdl_init_355 (fun H locs hP hD hS => ?_)
  have hP : va_P D vwCl [(h0, .inr (9, [.ref q1, .null, .int 0, .int 0, .null, .null, .null, .int 0, .int 0, .int 0, .int 0, .int 0, .int 0, .int 0, .int 0, .int 0, .int 0, .int 0, .int 0, .long 0, .int 0, .int 0, .int 0])), (q1, .inl (k.1, 47, .inl tfP)), (q2, .inl (k.1, 47, .inl (upd (pf tabO 4) (4 : Int32).toNatClampNeg 29)))] H := hP
  have hD : va_D A [(h0, .inr (9, [.ref q1, .null, .int 0, .int 0, .null, .null, .null, .int 0, .int 0, .int 0, .int 0, .int 0, .int 0, .int 0, .int 0, .int 0, .int 0, .int 0, .int 0, .long 0, .int 0, .int 0, .int 0])), (q1, .inl (k.1, 47, .inl tfP)), (q2, .inl (k.1, 47, .inl (upd (pf tabO 4) (4 : Int32).toNatClampNeg 29)))] := hD
  rw [pf_s (l := tabO) (j := 4) (v := 29) 4 rfl rfl] at hP hD
  have hP : va_P D vwCl [(h0, .inr (9, [.ref q1, .null, .int 0, .int 0, .null, .null, .null, .int 0, .int 0, .int 0, .int 0, .int 0, .int 0, .int 0, .int 0, .int 0, .int 0, .int 0, .int 0, .long 0, .int 0, .int 0, .int 0])), (q1, .inl (k.1, 47, .inl tfP)), (q2, .inl (k.1, 47, .inl (pf tabO 5)))] H := hP
  have hD : va_D A [(h0, .inr (9, [.ref q1, .null, .int 0, .int 0, .null, .null, .null, .int 0, .int 0, .int 0, .int 0, .int 0, .int 0, .int 0, .int 0, .int 0, .int 0, .int 0, .int 0, .long 0, .int 0, .int 0, .int 0])), (q1, .inl (k.1, 47, .inl tfP)), (q2, .inl (k.1, 47, .inl (pf tabO 5)))] := hD
  refine lv_dup hx hb d_Mdl_init_356 rfl ?_
  refine lv_iconst (v := 5) hx hb d_Mdl_init_357 (by decide) ?_
  refine lv_bipush (v := 33) hx hb d_Mdl_init_358 (by decide) ?_
  refine va_iast hx hb hK hP hD hS 2 0 rfl rfl (by unfold vp_in; decide +kernel) d_Mdl_init_360 (fun H locs hP hD hS => ?_)
  have hP : va_P D vwCl [(h0, .inr (9, [.ref q1, .null, .int 0, .int 0, .null, .null, .null, .int 0, .int 0, .int 0, .int 0, .int 0, .int 0, .int 0, .int 0, .int 0, .int 0, .int 0, .int 0, .long 0, .int 0, .int 0, .int 0])), (q1, .inl (k.1, 47, .inl tfP)), (q2, .inl (k.1, 47, .inl (upd (pf tabO 5) (5 : Int32).toNatClampNeg 33)))] H := hP
  have hD : va_D A [(h0, .inr (9, [.ref q1, .null, .int 0, .int 0, .null, .null, .null, .int 0, .int 0, .int 0, .int 0, .int 0, .int 0, .int 0, .int 0, .int 0, .int 0, .int 0, .int 0, .long 0, .int 0, .int 0, .int 0])), (q1, .inl (k.1, 47, .inl tfP)), (q2, .inl (k.1, 47, .inl (upd (pf tabO 5) (5 : Int32).toNatClampNeg 33)))] := hD
  rw [pf_s (l := tabO) (j := 5) (v := 33) 5 rfl rfl] at hP hD
  have hP : va_P D vwCl [(h0, .inr (9, [.ref q1, .null, .int 0, .int 0, .null, .null, .null, .int 0, .int 0, .int 0, .int 0, .int 0, .int 0, .int 0, .int 0, .int 0, .int 0, .int 0, .int 0, .long 0, .int 0, .int 0, .int 0])), (q1, .inl (k.1, 47, .inl tfP)), (q2, .inl (k.1, 47, .inl (pf tabO 6)))] H := hP
  have hD : va_D A [(h0, .inr (9, [.ref q1, .null, .int 0, .int 0, .null, .null, .null, .int 0, .int 0, .int 0, .int 0, .int 0, .int 0, .int 0, .int 0, .int 0, .int 0, .int 0, .int 0, .long 0, .int 0, .int 0, .int 0])), (q1, .inl (k.1, 47, .inl tfP)), (q2, .inl (k.1, 47, .inl (pf tabO 6)))] := hD
  refine lv_dup hx hb d_Mdl_init_361 rfl ?_
  refine lv_bipush (v := 6) hx hb d_Mdl_init_362 (by decide) ?_
  refine lv_bipush (v := 6) hx hb d_Mdl_init_364 (by decide) ?_
  refine va_iast hx hb hK hP hD hS 2 0 rfl rfl (by unfold vp_in; decide +kernel) d_Mdl_init_366 (fun H locs hP hD hS => ?_)
  have hP : va_P D vwCl [(h0, .inr (9, [.ref q1, .null, .int 0, .int 0, .null, .null, .null, .int 0, .int 0, .int 0, .int 0, .int 0, .int 0, .int 0, .int 0, .int 0, .int 0, .int 0, .int 0, .long 0, .int 0, .int 0, .int 0])), (q1, .inl (k.1, 47, .inl tfP)), (q2, .inl (k.1, 47, .inl (upd (pf tabO 6) (6 : Int32).toNatClampNeg 6)))] H := hP
  have hD : va_D A [(h0, .inr (9, [.ref q1, .null, .int 0, .int 0, .null, .null, .null, .int 0, .int 0, .int 0, .int 0, .int 0, .int 0, .int 0, .int 0, .int 0, .int 0, .int 0, .int 0, .long 0, .int 0, .int 0, .int 0])), (q1, .inl (k.1, 47, .inl tfP)), (q2, .inl (k.1, 47, .inl (upd (pf tabO 6) (6 : Int32).toNatClampNeg 6)))] := hD
  rw [pf_s (l := tabO) (j := 6) (v := 6) 6 rfl rfl] at hP hD
  have hP : va_P D vwCl [(h0, .inr (9, [.ref q1, .null, .int 0, .int 0, .null, .null, .null, .int 0, .int 0, .int 0, .int 0, .int 0, .int 0, .int 0, .int 0, .int 0, .int 0, .int 0, .int 0, .long 0, .int 0, .int 0, .int 0])), (q1, .inl (k.1, 47, .inl tfP)), (q2, .inl (k.1, 47, .inl (pf tabO 7)))] H := hP
  have hD : va_D A [(h0, .inr (9, [.ref q1, .null, .int 0, .int 0, .null, .null, .null, .int 0, .int 0, .int 0, .int 0, .int 0, .int 0, .int 0, .int 0, .int 0, .int 0, .int 0, .int 0, .long 0, .int 0, .int 0, .int 0])), (q1, .inl (k.1, 47, .inl tfP)), (q2, .inl (k.1, 47, .inl (pf tabO 7)))] := hD
  refine lv_dup hx hb d_Mdl_init_367 rfl ?_
  refine lv_bipush (v := 7) hx hb d_Mdl_init_368 (by decide) ?_
  refine lv_bipush (v := 14) hx hb d_Mdl_init_370 (by decide) ?_
  refine va_iast hx hb hK hP hD hS 2 0 rfl rfl (by unfold vp_in; decide +kernel) d_Mdl_init_372 (fun H locs hP hD hS => ?_)
  have hP : va_P D vwCl [(h0, .inr (9, [.ref q1, .null, .int 0, .int 0, .null, .null, .null, .int 0, .int 0, .int 0, .int 0, .int 0, .int 0, .int 0, .int 0, .int 0, .int 0, .int 0, .int 0, .long 0, .int 0, .int 0, .int 0])), (q1, .inl (k.1, 47, .inl tfP)), (q2, .inl (k.1, 47, .inl (upd (pf tabO 7) (7 : Int32).toNatClampNeg 14)))] H := hP
  have hD : va_D A [(h0, .inr (9, [.ref q1, .null, .int 0, .int 0, .null, .null, .null, .int 0, .int 0, .int 0, .int 0, .int 0, .int 0, .int 0, .int 0, .int 0, .int 0, .int 0, .int 0, .long 0, .int 0, .int 0, .int 0])), (q1, .inl (k.1, 47, .inl tfP)), (q2, .inl (k.1, 47, .inl (upd (pf tabO 7) (7 : Int32).toNatClampNeg 14)))] := hD
  rw [pf_s (l := tabO) (j := 7) (v := 14) 7 rfl rfl] at hP hD
  have hP : va_P D vwCl [(h0, .inr (9, [.ref q1, .null, .int 0, .int 0, .null, .null, .null, .int 0, .int 0, .int 0, .int 0, .int 0, .int 0, .int 0, .int 0, .int 0, .int 0, .int 0, .int 0, .long 0, .int 0, .int 0, .int 0])), (q1, .inl (k.1, 47, .inl tfP)), (q2, .inl (k.1, 47, .inl (pf tabO 8)))] H := hP
  have hD : va_D A [(h0, .inr (9, [.ref q1, .null, .int 0, .int 0, .null, .null, .null, .int 0, .int 0, .int 0, .int 0, .int 0, .int 0, .int 0, .int 0, .int 0, .int 0, .int 0, .int 0, .long 0, .int 0, .int 0, .int 0])), (q1, .inl (k.1, 47, .inl tfP)), (q2, .inl (k.1, 47, .inl (pf tabO 8)))] := hD
  refine lv_dup hx hb d_Mdl_init_373 rfl ?_
  refine lv_bipush (v := 8) hx hb d_Mdl_init_374 (by decide) ?_
  refine lv_bipush (v := 14) hx hb d_Mdl_init_376 (by decide) ?_
  refine va_iast hx hb hK hP hD hS 2 0 rfl rfl (by unfold vp_in; decide +kernel) d_Mdl_init_378 (fun H locs hP hD hS => ?_)
  have hP : va_P D vwCl [(h0, .inr (9, [.ref q1, .null, .int 0, .int 0, .null, .null, .null, .int 0, .int 0, .int 0, .int 0, .int 0, .int 0, .int 0, .int 0, .int 0, .int 0, .int 0, .int 0, .long 0, .int 0, .int 0, .int 0])), (q1, .inl (k.1, 47, .inl tfP)), (q2, .inl (k.1, 47, .inl (upd (pf tabO 8) (8 : Int32).toNatClampNeg 14)))] H := hP
  have hD : va_D A [(h0, .inr (9, [.ref q1, .null, .int 0, .int 0, .null, .null, .null, .int 0, .int 0, .int 0, .int 0, .int 0, .int 0, .int 0, .int 0, .int 0, .int 0, .int 0, .int 0, .long 0, .int 0, .int 0, .int 0])), (q1, .inl (k.1, 47, .inl tfP)), (q2, .inl (k.1, 47, .inl (upd (pf tabO 8) (8 : Int32).toNatClampNeg 14)))] := hD
  rw [pf_s (l := tabO) (j := 8) (v := 14) 8 rfl rfl] at hP hD
  have hP : va_P D vwCl [(h0, .inr (9, [.ref q1, .null, .int 0, .int 0, .null, .null, .null, .int 0, .int 0, .int 0, .int 0, .int 0, .int 0, .int 0, .int 0, .int 0, .int 0, .int 0, .int 0, .long 0, .int 0, .int 0, .int 0])), (q1, .inl (k.1, 47, .inl tfP)), (q2, .inl (k.1, 47, .inl (pf tabO 9)))] H := hP
  have hD : va_D A [(h0, .inr (9, [.ref q1, .null, .int 0, .int 0, .null, .null, .null, .int 0, .int 0, .int 0, .int 0, .int 0, .int 0, .int 0, .int 0, .int 0, .int 0, .int 0, .int 0, .long 0, .int 0, .int 0, .int 0])), (q1, .inl (k.1, 47, .inl tfP)), (q2, .inl (k.1, 47, .inl (pf tabO 9)))] := hD
  refine lv_dup hx hb d_Mdl_init_379 rfl ?_
  refine lv_bipush (v := 9) hx hb d_Mdl_init_380 (by decide) ?_
  refine lv_bipush (v := 14) hx hb d_Mdl_init_382 (by decide) ?_
  refine va_iast hx hb hK hP hD hS 2 0 rfl rfl (by unfold vp_in; decide +kernel) d_Mdl_init_384 (fun H locs hP hD hS => ?_)
  have hP : va_P D vwCl [(h0, .inr (9, [.ref q1, .null, .int 0, .int 0, .null, .null, .null, .int 0, .int 0, .int 0, .int 0, .int 0, .int 0, .int 0, .int 0, .int 0, .int 0, .int 0, .int 0, .long 0, .int 0, .int 0, .int 0])), (q1, .inl (k.1, 47, .inl tfP)), (q2, .inl (k.1, 47, .inl (upd (pf tabO 9) (9 : Int32).toNatClampNeg 14)))] H := hP
  have hD : va_D A [(h0, .inr (9, [.ref q1, .null, .int 0, .int 0, .null, .null, .null, .int 0, .int 0, .int 0, .int 0, .int 0, .int 0, .int 0, .int 0, .int 0, .int 0, .int 0, .int 0, .long 0, .int 0, .int 0, .int 0])), (q1, .inl (k.1, 47, .inl tfP)), (q2, .inl (k.1, 47, .inl (upd (pf tabO 9) (9 : Int32).toNatClampNeg 14)))] := hD
  rw [pf_s (l := tabO) (j := 9) (v := 14) 9 rfl rfl] at hP hD
  have hP : va_P D vwCl [(h0, .inr (9, [.ref q1, .null, .int 0, .int 0, .null, .null, .null, .int 0, .int 0, .int 0, .int 0, .int 0, .int 0, .int 0, .int 0, .int 0, .int 0, .int 0, .int 0, .long 0, .int 0, .int 0, .int 0])), (q1, .inl (k.1, 47, .inl tfP)), (q2, .inl (k.1, 47, .inl (pf tabO 10)))] H := hP
  have hD : va_D A [(h0, .inr (9, [.ref q1, .null, .int 0, .int 0, .null, .null, .null, .int 0, .int 0, .int 0, .int 0, .int 0, .int 0, .int 0, .int 0, .int 0, .int 0, .int 0, .int 0, .long 0, .int 0, .int 0, .int 0])), (q1, .inl (k.1, 47, .inl tfP)), (q2, .inl (k.1, 47, .inl (pf tabO 10)))] := hD
  refine lv_dup hx hb d_Mdl_init_385 rfl ?_
  refine lv_bipush (v := 10) hx hb d_Mdl_init_386 (by decide) ?_
  refine lv_bipush (v := 17) hx hb d_Mdl_init_388 (by decide) ?_
  refine va_iast hx hb hK hP hD hS 2 0 rfl rfl (by unfold vp_in; decide +kernel) d_Mdl_init_390 (fun H locs hP hD hS => ?_)
  have hP : va_P D vwCl [(h0, .inr (9, [.ref q1, .null, .int 0, .int 0, .null, .null, .null, .int 0, .int 0, .int 0, .int 0, .int 0, .int 0, .int 0, .int 0, .int 0, .int 0, .int 0, .int 0, .long 0, .int 0, .int 0, .int 0])), (q1, .inl (k.1, 47, .inl tfP)), (q2, .inl (k.1, 47, .inl (upd (pf tabO 10) (10 : Int32).toNatClampNeg 17)))] H := hP
  have hD : va_D A [(h0, .inr (9, [.ref q1, .null, .int 0, .int 0, .null, .null, .null, .int 0, .int 0, .int 0, .int 0, .int 0, .int 0, .int 0, .int 0, .int 0, .int 0, .int 0, .int 0, .long 0, .int 0, .int 0, .int 0])), (q1, .inl (k.1, 47, .inl tfP)), (q2, .inl (k.1, 47, .inl (upd (pf tabO 10) (10 : Int32).toNatClampNeg 17)))] := hD
  rw [pf_s (l := tabO) (j := 10) (v := 17) 10 rfl rfl] at hP hD
  have hP : va_P D vwCl [(h0, .inr (9, [.ref q1, .null, .int 0, .int 0, .null, .null, .null, .int 0, .int 0, .int 0, .int 0, .int 0, .int 0, .int 0, .int 0, .int 0, .int 0, .int 0, .int 0, .long 0, .int 0, .int 0, .int 0])), (q1, .inl (k.1, 47, .inl tfP)), (q2, .inl (k.1, 47, .inl (pf tabO 11)))] H := hP
  have hD : va_D A [(h0, .inr (9, [.ref q1, .null, .int 0, .int 0, .null, .null, .null, .int 0, .int 0, .int 0, .int 0, .int 0, .int 0, .int 0, .int 0, .int 0, .int 0, .int 0, .int 0, .long 0, .int 0, .int 0, .int 0])), (q1, .inl (k.1, 47, .inl tfP)), (q2, .inl (k.1, 47, .inl (pf tabO 11)))] := hD
  refine lv_dup hx hb d_Mdl_init_391 rfl ?_
  refine lv_bipush (v := 11) hx hb d_Mdl_init_392 (by decide) ?_
  refine lv_bipush (v := 18) hx hb d_Mdl_init_394 (by decide) ?_
  refine va_iast hx hb hK hP hD hS 2 0 rfl rfl (by unfold vp_in; decide +kernel) d_Mdl_init_396 (fun H locs hP hD hS => ?_)
  have hP : va_P D vwCl [(h0, .inr (9, [.ref q1, .null, .int 0, .int 0, .null, .null, .null, .int 0, .int 0, .int 0, .int 0, .int 0, .int 0, .int 0, .int 0, .int 0, .int 0, .int 0, .int 0, .long 0, .int 0, .int 0, .int 0])), (q1, .inl (k.1, 47, .inl tfP)), (q2, .inl (k.1, 47, .inl (upd (pf tabO 11) (11 : Int32).toNatClampNeg 18)))] H := hP
  have hD : va_D A [(h0, .inr (9, [.ref q1, .null, .int 0, .int 0, .null, .null, .null, .int 0, .int 0, .int 0, .int 0, .int 0, .int 0, .int 0, .int 0, .int 0, .int 0, .int 0, .int 0, .long 0, .int 0, .int 0, .int 0])), (q1, .inl (k.1, 47, .inl tfP)), (q2, .inl (k.1, 47, .inl (upd (pf tabO 11) (11 : Int32).toNatClampNeg 18)))] := hD
  rw [pf_s (l := tabO) (j := 11) (v := 18) 11 rfl rfl] at hP hD
  have hP : va_P D vwCl [(h0, .inr (9, [.ref q1, .null, .int 0, .int 0, .null, .null, .null, .int 0, .int 0, .int 0, .int 0, .int 0, .int 0, .int 0, .int 0, .int 0, .int 0, .int 0, .int 0, .long 0, .int 0, .int 0, .int 0])), (q1, .inl (k.1, 47, .inl tfP)), (q2, .inl (k.1, 47, .inl (pf tabO 12)))] H := hP
  have hD : va_D A [(h0, .inr (9, [.ref q1, .null, .int 0, .int 0, .null, .null, .null, .int 0, .int 0, .int 0, .int 0, .int 0, .int 0, .int 0, .int 0, .int 0, .int 0, .int 0, .int 0, .long 0, .int 0, .int 0, .int 0])), (q1, .inl (k.1, 47, .inl tfP)), (q2, .inl (k.1, 47, .inl (pf tabO 12)))] := hD
  refine lv_dup hx hb d_Mdl_init_397 rfl ?_
  refine lv_bipush (v := 12) hx hb d_Mdl_init_398 (by decide) ?_
  refine lv_bipush (v := 20) hx hb d_Mdl_init_400 (by decide) ?_
  refine va_iast hx hb hK hP hD hS 2 0 rfl rfl (by unfold vp_in; decide +kernel) d_Mdl_init_402 (fun H locs hP hD hS => ?_)
  have hP : va_P D vwCl [(h0, .inr (9, [.ref q1, .null, .int 0, .int 0, .null, .null, .null, .int 0, .int 0, .int 0, .int 0, .int 0, .int 0, .int 0, .int 0, .int 0, .int 0, .int 0, .int 0, .long 0, .int 0, .int 0, .int 0])), (q1, .inl (k.1, 47, .inl tfP)), (q2, .inl (k.1, 47, .inl (upd (pf tabO 12) (12 : Int32).toNatClampNeg 20)))] H := hP
  have hD : va_D A [(h0, .inr (9, [.ref q1, .null, .int 0, .int 0, .null, .null, .null, .int 0, .int 0, .int 0, .int 0, .int 0, .int 0, .int 0, .int 0, .int 0, .int 0, .int 0, .int 0, .long 0, .int 0, .int 0, .int 0])), (q1, .inl (k.1, 47, .inl tfP)), (q2, .inl (k.1, 47, .inl (upd (pf tabO 12) (12 : Int32).toNatClampNeg 20)))] := hD
  rw [pf_s (l := tabO) (j := 12) (v := 20) 12 rfl rfl] at hP hD
  have hP : va_P D vwCl [(h0, .inr (9, [.ref q1, .null, .int 0, .int 0, .null, .null, .null, .int 0, .int 0, .int 0, .int 0, .int 0, .int 0, .int 0, .int 0, .int 0, .int 0, .int 0, .int 0, .long 0, .int 0, .int 0, .int 0])), (q1, .inl (k.1, 47, .inl tfP)), (q2, .inl (k.1, 47, .inl (pf tabO 13)))] H := hP
  have hD : va_D A [(h0, .inr (9, [.ref q1, .null, .int 0, .int 0, .null, .null, .null, .int 0, .int 0, .int 0, .int 0, .int 0, .int 0, .int 0, .int 0, .int 0, .int 0, .int 0, .int 0, .long 0, .int 0, .int 0, .int 0])), (q1, .inl (k.1, 47, .inl tfP)), (q2, .inl (k.1, 47, .inl (pf tabO 13)))] := hD
  refine lv_dup hx hb d_Mdl_init_403 rfl ?_
  refine lv_bipush (v := 13) hx hb d_Mdl_init_404 (by decide) ?_
  refine lv_bipush (v := 21) hx hb d_Mdl_init_406 (by decide) ?_
  refine va_iast hx hb hK hP hD hS 2 0 rfl rfl (by unfold vp_in; decide +kernel) d_Mdl_init_408 (fun H locs hP hD hS => ?_)
  have hP : va_P D vwCl [(h0, .inr (9, [.ref q1, .null, .int 0, .int 0, .null, .null, .null, .int 0, .int 0, .int 0, .int 0, .int 0, .int 0, .int 0, .int 0, .int 0, .int 0, .int 0, .int 0, .long 0, .int 0, .int 0, .int 0])), (q1, .inl (k.1, 47, .inl tfP)), (q2, .inl (k.1, 47, .inl (upd (pf tabO 13) (13 : Int32).toNatClampNeg 21)))] H := hP
  have hD : va_D A [(h0, .inr (9, [.ref q1, .null, .int 0, .int 0, .null, .null, .null, .int 0, .int 0, .int 0, .int 0, .int 0, .int 0, .int 0, .int 0, .int 0, .int 0, .int 0, .int 0, .long 0, .int 0, .int 0, .int 0])), (q1, .inl (k.1, 47, .inl tfP)), (q2, .inl (k.1, 47, .inl (upd (pf tabO 13) (13 : Int32).toNatClampNeg 21)))] := hD
  rw [pf_s (l := tabO) (j := 13) (v := 21) 13 rfl rfl] at hP hD
  have hP : va_P D vwCl [(h0, .inr (9, [.ref q1, .null, .int 0, .int 0, .null, .null, .null, .int 0, .int 0, .int 0, .int 0, .int 0, .int 0, .int 0, .int 0, .int 0, .int 0, .int 0, .int 0, .long 0, .int 0, .int 0, .int 0])), (q1, .inl (k.1, 47, .inl tfP)), (q2, .inl (k.1, 47, .inl (pf tabO 14)))] H := hP
  have hD : va_D A [(h0, .inr (9, [.ref q1, .null, .int 0, .int 0, .null, .null, .null, .int 0, .int 0, .int 0, .int 0, .int 0, .int 0, .int 0, .int 0, .int 0, .int 0, .int 0, .int 0, .long 0, .int 0, .int 0, .int 0])), (q1, .inl (k.1, 47, .inl tfP)), (q2, .inl (k.1, 47, .inl (pf tabO 14)))] := hD
  refine lv_dup hx hb d_Mdl_init_409 rfl ?_
  refine lv_bipush (v := 14) hx hb d_Mdl_init_410 (by decide) ?_
  refine lv_bipush (v := 14) hx hb d_Mdl_init_412 (by decide) ?_
  refine va_iast hx hb hK hP hD hS 2 0 rfl rfl (by unfold vp_in; decide +kernel) d_Mdl_init_414 (fun H locs hP hD hS => ?_)
  have hP : va_P D vwCl [(h0, .inr (9, [.ref q1, .null, .int 0, .int 0, .null, .null, .null, .int 0, .int 0, .int 0, .int 0, .int 0, .int 0, .int 0, .int 0, .int 0, .int 0, .int 0, .int 0, .long 0, .int 0, .int 0, .int 0])), (q1, .inl (k.1, 47, .inl tfP)), (q2, .inl (k.1, 47, .inl (upd (pf tabO 14) (14 : Int32).toNatClampNeg 14)))] H := hP
  have hD : va_D A [(h0, .inr (9, [.ref q1, .null, .int 0, .int 0, .null, .null, .null, .int 0, .int 0, .int 0, .int 0, .int 0, .int 0, .int 0, .int 0, .int 0, .int 0, .int 0, .int 0, .long 0, .int 0, .int 0, .int 0])), (q1, .inl (k.1, 47, .inl tfP)), (q2, .inl (k.1, 47, .inl (upd (pf tabO 14) (14 : Int32).toNatClampNeg 14)))] := hD
  rw [pf_s (l := tabO) (j := 14) (v := 14) 14 rfl rfl] at hP hD
  have hP : va_P D vwCl [(h0, .inr (9, [.ref q1, .null, .int 0, .int 0, .null, .null, .null, .int 0, .int 0, .int 0, .int 0, .int 0, .int 0, .int 0, .int 0, .int 0, .int 0, .int 0, .int 0, .long 0, .int 0, .int 0, .int 0])), (q1, .inl (k.1, 47, .inl tfP)), (q2, .inl (k.1, 47, .inl (pf tabO 15)))] H := hP
  have hD : va_D A [(h0, .inr (9, [.ref q1, .null, .int 0, .int 0, .null, .null, .null, .int 0, .int 0, .int 0, .int 0, .int 0, .int 0, .int 0, .int 0, .int 0, .int 0, .int 0, .int 0, .long 0, .int 0, .int 0, .int 0])), (q1, .inl (k.1, 47, .inl tfP)), (q2, .inl (k.1, 47, .inl (pf tabO 15)))] := hD
  refine lv_dup hx hb d_Mdl_init_415 rfl ?_
  refine lv_bipush (v := 15) hx hb d_Mdl_init_416 (by decide) ?_
  refine lv_bipush (v := 14) hx hb d_Mdl_init_418 (by decide) ?_
  refine va_iast hx hb hK hP hD hS 2 0 rfl rfl (by unfold vp_in; decide +kernel) d_Mdl_init_420 (fun H locs hP hD hS => ?_)
  have hP : va_P D vwCl [(h0, .inr (9, [.ref q1, .null, .int 0, .int 0, .null, .null, .null, .int 0, .int 0, .int 0, .int 0, .int 0, .int 0, .int 0, .int 0, .int 0, .int 0, .int 0, .int 0, .long 0, .int 0, .int 0, .int 0])), (q1, .inl (k.1, 47, .inl tfP)), (q2, .inl (k.1, 47, .inl (upd (pf tabO 15) (15 : Int32).toNatClampNeg 14)))] H := hP
  have hD : va_D A [(h0, .inr (9, [.ref q1, .null, .int 0, .int 0, .null, .null, .null, .int 0, .int 0, .int 0, .int 0, .int 0, .int 0, .int 0, .int 0, .int 0, .int 0, .int 0, .int 0, .long 0, .int 0, .int 0, .int 0])), (q1, .inl (k.1, 47, .inl tfP)), (q2, .inl (k.1, 47, .inl (upd (pf tabO 15) (15 : Int32).toNatClampNeg 14)))] := hD
  rw [pf_s (l := tabO) (j := 15) (v := 14) 15 rfl rfl] at hP hD
  have hP : va_P D vwCl [(h0, .inr (9, [.ref q1, .null, .int 0, .int 0, .null, .null, .null, .int 0, .int 0, .int 0, .int 0, .int 0, .int 0, .int 0, .int 0, .int 0, .int 0, .int 0, .int 0, .long 0, .int 0, .int 0, .int 0])), (q1, .inl (k.1, 47, .inl tfP)), (q2, .inl (k.1, 47, .inl (pf tabO 16)))] H := hP
  have hD : va_D A [(h0, .inr (9, [.ref q1, .null, .int 0, .int 0, .null, .null, .null, .int 0, .int 0, .int 0, .int 0, .int 0, .int 0, .int 0, .int 0, .int 0, .int 0, .int 0, .int 0, .long 0, .int 0, .int 0, .int 0])), (q1, .inl (k.1, 47, .inl tfP)), (q2, .inl (k.1, 47, .inl (pf tabO 16)))] := hD
  refine lv_dup hx hb d_Mdl_init_421 rfl ?_
  refine lv_bipush (v := 16) hx hb d_Mdl_init_422 (by decide) ?_
  refine lv_bipush (v := 15) hx hb d_Mdl_init_424 (by decide) ?_
  refine va_iast hx hb hK hP hD hS 2 0 rfl rfl (by unfold vp_in; decide +kernel) d_Mdl_init_426 (fun H locs hP hD hS => ?_)
  have hP : va_P D vwCl [(h0, .inr (9, [.ref q1, .null, .int 0, .int 0, .null, .null, .null, .int 0, .int 0, .int 0, .int 0, .int 0, .int 0, .int 0, .int 0, .int 0, .int 0, .int 0, .int 0, .long 0, .int 0, .int 0, .int 0])), (q1, .inl (k.1, 47, .inl tfP)), (q2, .inl (k.1, 47, .inl (upd (pf tabO 16) (16 : Int32).toNatClampNeg 15)))] H := hP
  have hD : va_D A [(h0, .inr (9, [.ref q1, .null, .int 0, .int 0, .null, .null, .null, .int 0, .int 0, .int 0, .int 0, .int 0, .int 0, .int 0, .int 0, .int 0, .int 0, .int 0, .int 0, .long 0, .int 0, .int 0, .int 0])), (q1, .inl (k.1, 47, .inl tfP)), (q2, .inl (k.1, 47, .inl (upd (pf tabO 16) (16 : Int32).toNatClampNeg 15)))] := hD
  rw [pf_s (l := tabO) (j := 16) (v := 15) 16 rfl rfl] at hP hD
  have hP : va_P D vwCl [(h0, .inr (9, [.ref q1, .null, .int 0, .int 0, .null, .null, .null, .int 0, .int 0, .int 0, .int 0, .int 0, .int 0, .int 0, .int 0, .int 0, .int 0, .int 0, .int 0, .long 0, .int 0, .int 0, .int 0])), (q1, .inl (k.1, 47, .inl tfP)), (q2, .inl (k.1, 47, .inl (pf tabO 17)))] H := hP
  have hD : va_D A [(h0, .inr (9, [.ref q1, .null, .int 0, .int 0, .null, .null, .null, .int 0, .int 0, .int 0, .int 0, .int 0, .int 0, .int 0, .int 0, .int 0, .int 0, .int 0, .int 0, .long 0, .int 0, .int 0, .int 0])), (q1, .inl (k.1, 47, .inl tfP)), (q2, .inl (k.1, 47, .inl (pf tabO 17)))] := hD
  refine lv_dup hx hb d_Mdl_init_427 rfl ?_
  refine lv_bipush (v := 17) hx hb d_Mdl_init_428 (by decide) ?_
  refine lv_bipush (v := 16) hx hb d_Mdl_init_430 (by decide) ?_
  refine va_iast hx hb hK hP hD hS 2 0 rfl rfl (by unfold vp_in; decide +kernel) d_Mdl_init_432 (fun H locs hP hD hS => ?_)
  have hP : va_P D vwCl [(h0, .inr (9, [.ref q1, .null, .int 0, .int 0, .null, .null, .null, .int 0, .int 0, .int 0, .int 0, .int 0, .int 0, .int 0, .int 0, .int 0, .int 0, .int 0, .int 0, .long 0, .int 0, .int 0, .int 0])), (q1, .inl (k.1, 47, .inl tfP)), (q2, .inl (k.1, 47, .inl (upd (pf tabO 17) (17 : Int32).toNatClampNeg 16)))] H := hP
  have hD : va_D A [(h0, .inr (9, [.ref q1, .null, .int 0, .int 0, .null, .null, .null, .int 0, .int 0, .int 0, .int 0, .int 0, .int 0, .int 0, .int 0, .int 0, .int 0, .int 0, .int 0, .long 0, .int 0, .int 0, .int 0])), (q1, .inl (k.1, 47, .inl tfP)), (q2, .inl (k.1, 47, .inl (upd (pf tabO 17) (17 : Int32).toNatClampNeg 16)))] := hD
  rw [pf_s (l := tabO) (j := 17) (v := 16) 17 rfl rfl] at hP hD
  have hP : va_P D vwCl [(h0, .inr (9, [.ref q1, .null, .int 0, .int 0, .null, .null, .null, .int 0, .int 0, .int 0, .int 0, .int 0, .int 0, .int 0, .int 0, .int 0, .int 0, .int 0, .int 0, .long 0, .int 0, .int 0, .int 0])), (q1, .inl (k.1, 47, .inl tfP)), (q2, .inl (k.1, 47, .inl (pf tabO 18)))] H := hP
  have hD : va_D A [(h0, .inr (9, [.ref q1, .null, .int 0, .int 0, .null, .null, .null, .int 0, .int 0, .int 0, .int 0, .int 0, .int 0, .int 0, .int 0, .int 0, .int 0, .int 0, .int 0, .long 0, .int 0, .int 0, .int 0])), (q1, .inl (k.1, 47, .inl tfP)), (q2, .inl (k.1, 47, .inl (pf tabO 18)))] := hD
  refine lv_dup hx hb d_Mdl_init_433 rfl ?_
  refine lv_bipush (v := 18) hx hb d_Mdl_init_434 (by decide) ?_
  refine lv_bipush (v := 17) hx hb d_Mdl_init_436 (by decide) ?_
  refine va_iast hx hb hK hP hD hS 2 0 rfl rfl (by unfold vp_in; decide +kernel) d_Mdl_init_438 (fun H locs hP hD hS => ?_)
  have hP : va_P D vwCl [(h0, .inr (9, [.ref q1, .null, .int 0, .int 0, .null, .null, .null, .int 0, .int 0, .int 0, .int 0, .int 0, .int 0, .int 0, .int 0, .int 0, .int 0, .int 0, .int 0, .long 0, .int 0, .int 0, .int 0])), (q1, .inl (k.1, 47, .inl tfP)), (q2, .inl (k.1, 47, .inl (upd (pf tabO 18) (18 : Int32).toNatClampNeg 17)))] H := hP
  have hD : va_D A [(h0, .inr (9, [.ref q1, .null, .int 0, .int 0, .null, .null, .null, .int 0, .int 0, .int 0, .int 0, .int 0, .int 0, .int 0, .int 0, .int 0, .int 0, .int 0, .int 0, .long 0, .int 0, .int 0, .int 0])), (q1, .inl (k.1, 47, .inl tfP)), (q2, .inl (k.1, 47, .inl (upd (pf tabO 18) (18 : Int32).toNatClampNeg 17)))] := hD
  rw [pf_s (l := tabO) (j := 18) (v := 17) 18 rfl rfl] at hP hD
  have hP : va_P D vwCl [(h0, .inr (9, [.ref q1, .null, .int 0, .int 0, .null, .null, .null, .int 0, .int 0, .int 0, .int 0, .int 0, .int 0, .int 0, .int 0, .int 0, .int 0, .int 0, .int 0, .long 0, .int 0, .int 0, .int 0])), (q1, .inl (k.1, 47, .inl tfP)), (q2, .inl (k.1, 47, .inl (pf tabO 19)))] H := hP
  have hD : va_D A [(h0, .inr (9, [.ref q1, .null, .int 0, .int 0, .null, .null, .null, .int 0, .int 0, .int 0, .int 0, .int 0, .int 0, .int 0, .int 0, .int 0, .int 0, .int 0, .int 0, .long 0, .int 0, .int 0, .int 0])), (q1, .inl (k.1, 47, .inl tfP)), (q2, .inl (k.1, 47, .inl (pf tabO 19)))] := hD
  refine lv_dup hx hb d_Mdl_init_439 rfl ?_
  refine lv_bipush (v := 19) hx hb d_Mdl_init_440 (by decide) ?_
  refine lv_bipush (v := 18) hx hb d_Mdl_init_442 (by decide) ?_
  refine va_iast hx hb hK hP hD hS 2 0 rfl rfl (by unfold vp_in; decide +kernel) d_Mdl_init_444 (fun H locs hP hD hS => ?_)
  have hP : va_P D vwCl [(h0, .inr (9, [.ref q1, .null, .int 0, .int 0, .null, .null, .null, .int 0, .int 0, .int 0, .int 0, .int 0, .int 0, .int 0, .int 0, .int 0, .int 0, .int 0, .int 0, .long 0, .int 0, .int 0, .int 0])), (q1, .inl (k.1, 47, .inl tfP)), (q2, .inl (k.1, 47, .inl (upd (pf tabO 19) (19 : Int32).toNatClampNeg 18)))] H := hP
  have hD : va_D A [(h0, .inr (9, [.ref q1, .null, .int 0, .int 0, .null, .null, .null, .int 0, .int 0, .int 0, .int 0, .int 0, .int 0, .int 0, .int 0, .int 0, .int 0, .int 0, .int 0, .long 0, .int 0, .int 0, .int 0])), (q1, .inl (k.1, 47, .inl tfP)), (q2, .inl (k.1, 47, .inl (upd (pf tabO 19) (19 : Int32).toNatClampNeg 18)))] := hD
  rw [pf_s (l := tabO) (j := 19) (v := 18) 19 rfl rfl] at hP hD
  have hP : va_P D vwCl [(h0, .inr (9, [.ref q1, .null, .int 0, .int 0, .null, .null, .null, .int 0, .int 0, .int 0, .int 0, .int 0, .int 0, .int 0, .int 0, .int 0, .int 0, .int 0, .int 0, .long 0, .int 0, .int 0, .int 0])), (q1, .inl (k.1, 47, .inl tfP)), (q2, .inl (k.1, 47, .inl (pf tabO 20)))] H := hP
  have hD : va_D A [(h0, .inr (9, [.ref q1, .null, .int 0, .int 0, .null, .null, .null, .int 0, .int 0, .int 0, .int 0, .int 0, .int 0, .int 0, .int 0, .int 0, .int 0, .int 0, .int 0, .long 0, .int 0, .int 0, .int 0])), (q1, .inl (k.1, 47, .inl tfP)), (q2, .inl (k.1, 47, .inl (pf tabO 20)))] := hD
  refine lv_dup hx hb d_Mdl_init_445 rfl ?_
  refine lv_bipush (v := 20) hx hb d_Mdl_init_446 (by decide) ?_
  refine lv_bipush (v := 19) hx hb d_Mdl_init_448 (by decide) ?_
  refine va_iast hx hb hK hP hD hS 2 0 rfl rfl (by unfold vp_in; decide +kernel) d_Mdl_init_450 (fun H locs hP hD hS => ?_)
  have hP : va_P D vwCl [(h0, .inr (9, [.ref q1, .null, .int 0, .int 0, .null, .null, .null, .int 0, .int 0, .int 0, .int 0, .int 0, .int 0, .int 0, .int 0, .int 0, .int 0, .int 0, .int 0, .long 0, .int 0, .int 0, .int 0])), (q1, .inl (k.1, 47, .inl tfP)), (q2, .inl (k.1, 47, .inl (upd (pf tabO 20) (20 : Int32).toNatClampNeg 19)))] H := hP
  have hD : va_D A [(h0, .inr (9, [.ref q1, .null, .int 0, .int 0, .null, .null, .null, .int 0, .int 0, .int 0, .int 0, .int 0, .int 0, .int 0, .int 0, .int 0, .int 0, .int 0, .int 0, .long 0, .int 0, .int 0, .int 0])), (q1, .inl (k.1, 47, .inl tfP)), (q2, .inl (k.1, 47, .inl (upd (pf tabO 20) (20 : Int32).toNatClampNeg 19)))] := hD
  rw [pf_s (l := tabO) (j := 20) (v := 19) 20 rfl rfl] at hP hD
  have hP : va_P D vwCl [(h0, .inr (9, [.ref q1, .null, .int 0, .int 0, .null, .null, .null, .int 0, .int 0, .int 0, .int 0, .int 0, .int 0, .int 0, .int 0, .int 0, .int 0, .int 0, .int 0, .long 0, .int 0, .int 0, .int 0])), (q1, .inl (k.1, 47, .inl tfP)), (q2, .inl (k.1, 47, .inl (pf tabO 21)))] H := hP
  have hD : va_D A [(h0, .inr (9, [.ref q1, .null, .int 0, .int 0, .null, .null, .null, .int 0, .int 0, .int 0, .int 0, .int 0, .int 0, .int 0, .int 0, .int 0, .int 0, .int 0, .int 0, .long 0, .int 0, .int 0, .int 0])), (q1, .inl (k.1, 47, .inl tfP)), (q2, .inl (k.1, 47, .inl (pf tabO 21)))] := hD
  refine lv_dup hx hb d_Mdl_init_451 rfl ?_
  refine lv_bipush (v := 21) hx hb d_Mdl_init_452 (by decide) ?_
  refine lv_bipush (v := 19) hx hb d_Mdl_init_454 (by decide) ?_
  refine va_iast hx hb hK hP hD hS 2 0 rfl rfl (by unfold vp_in; decide +kernel) d_Mdl_init_456 (fun H locs hP hD hS => ?_)
  have hP : va_P D vwCl [(h0, .inr (9, [.ref q1, .null, .int 0, .int 0, .null, .null, .null, .int 0, .int 0, .int 0, .int 0, .int 0, .int 0, .int 0, .int 0, .int 0, .int 0, .int 0, .int 0, .long 0, .int 0, .int 0, .int 0])), (q1, .inl (k.1, 47, .inl tfP)), (q2, .inl (k.1, 47, .inl (upd (pf tabO 21) (21 : Int32).toNatClampNeg 19)))] H := hP
  have hD : va_D A [(h0, .inr (9, [.ref q1, .null, .int 0, .int 0, .null, .null, .null, .int 0, .int 0, .int 0, .int 0, .int 0, .int 0, .int 0, .int 0, .int 0, .int 0, .int 0, .int 0, .long 0, .int 0, .int 0, .int 0])), (q1, .inl (k.1, 47, .inl tfP)), (q2, .inl (k.1, 47, .inl (upd (pf tabO 21) (21 : Int32).toNatClampNeg 19)))] := hD
  rw [pf_s (l := tabO) (j := 21) (v := 19) 21 rfl rfl] at hP hD
  have hP : va_P D vwCl [(h0, .inr (9, [.ref q1, .null, .int 0, .int 0, .null, .null, .null, .int 0, .int 0, .int 0, .int 0, .int 0, .int 0, .int 0, .int 0, .int 0, .int 0, .int 0, .int 0, .long 0, .int 0, .int 0, .int 0])), (q1, .inl (k.1, 47, .inl tfP)), (q2, .inl (k.1, 47, .inl (pf tabO 22)))] H := hP
  have hD : va_D A [(h0, .inr (9, [.ref q1, .null, .int 0, .int 0, .null, .null, .null, .int 0, .int 0, .int 0, .int 0, .int 0, .int 0, .int 0, .int 0, .int 0, .int 0, .int 0, .int 0, .long 0, .int 0, .int 0, .int 0])), (q1, .inl (k.1, 47, .inl tfP)), (q2, .inl (k.1, 47, .inl (pf tabO 22)))] := hD
  refine lv_dup hx hb d_Mdl_init_457 rfl ?_
  refine lv_bipush (v := 22) hx hb d_Mdl_init_458 (by decide) ?_
  refine lv_bipush (v := 20) hx hb d_Mdl_init_460 (by decide) ?_
  refine va_iast hx hb hK hP hD hS 2 0 rfl rfl (by unfold vp_in; decide +kernel) d_Mdl_init_462 (fun H locs hP hD hS => ?_)
  have hP : va_P D vwCl [(h0, .inr (9, [.ref q1, .null, .int 0, .int 0, .null, .null, .null, .int 0, .int 0, .int 0, .int 0, .int 0, .int 0, .int 0, .int 0, .int 0, .int 0, .int 0, .int 0, .long 0, .int 0, .int 0, .int 0])), (q1, .inl (k.1, 47, .inl tfP)), (q2, .inl (k.1, 47, .inl (upd (pf tabO 22) (22 : Int32).toNatClampNeg 20)))] H := hP
  have hD : va_D A [(h0, .inr (9, [.ref q1, .null, .int 0, .int 0, .null, .null, .null, .int 0, .int 0, .int 0, .int 0, .int 0, .int 0, .int 0, .int 0, .int 0, .int 0, .int 0, .int 0, .long 0, .int 0, .int 0, .int 0])), (q1, .inl (k.1, 47, .inl tfP)), (q2, .inl (k.1, 47, .inl (upd (pf tabO 22) (22 : Int32).toNatClampNeg 20)))] := hD
  rw [pf_s (l := tabO) (j := 22) (v := 20) 22 rfl rfl] at hP hD
  have hP : va_P D vwCl [(h0, .inr (9, [.ref q1, .null, .int 0, .int 0, .null, .null, .null, .int 0, .int 0, .int 0, .int 0, .int 0, .int 0, .int 0, .int 0, .int 0, .int 0, .int 0, .int 0, .long 0, .int 0, .int 0, .int 0])), (q1, .inl (k.1, 47, .inl tfP)), (q2, .inl (k.1, 47, .inl (pf tabO 23)))] H := hP
  have hD : va_D A [(h0, .inr (9, [.ref q1, .null, .int 0, .int 0, .null, .null, .null, .int 0, .int 0, .int 0, .int 0, .int 0, .int 0, .int 0, .int 0, .int 0, .int 0, .int 0, .int 0, .long 0, .int 0, .int 0, .int 0])), (q1, .inl (k.1, 47, .inl tfP)), (q2, .inl (k.1, 47, .inl (pf tabO 23)))] := hD
  refine lv_dup hx hb d_Mdl_init_463 rfl ?_
  refine lv_bipush (v := 23) hx hb d_Mdl_init_464 (by decide) ?_
  refine lv_bipush (v := 21) hx hb d_Mdl_init_466 (by decide) ?_
  refine va_iast hx hb hK hP hD hS 2 0 rfl rfl (by unfold vp_in; decide +kernel) d_Mdl_init_468 (fun H locs hP hD hS => ?_)
  have hP : va_P D vwCl [(h0, .inr (9, [.ref q1, .null, .int 0, .int 0, .null, .null, .null, .int 0, .int 0, .int 0, .int 0, .int 0, .int 0, .int 0, .int 0, .int 0, .int 0, .int 0, .int 0, .long 0, .int 0, .int 0, .int 0])), (q1, .inl (k.1, 47, .inl tfP)), (q2, .inl (k.1, 47, .inl (upd (pf tabO 23) (23 : Int32).toNatClampNeg 21)))] H := hP
  have hD : va_D A [(h0, .inr (9, [.ref q1, .null, .int 0, .int 0, .null, .null, .null, .int 0, .int 0, .int 0, .int 0, .int 0, .int 0, .int 0, .int 0, .int 0, .int 0, .int 0, .int 0, .long 0, .int 0, .int 0, .int 0])), (q1, .inl (k.1, 47, .inl tfP)), (q2, .inl (k.1, 47, .inl (upd (pf tabO 23) (23 : Int32).toNatClampNeg 21)))] := hD
  rw [pf_s (l := tabO) (j := 23) (v := 21) 23 rfl rfl] at hP hD
  have hP : va_P D vwCl [(h0, .inr (9, [.ref q1, .null, .int 0, .int 0, .null, .null, .null, .int 0, .int 0, .int 0, .int 0, .int 0, .int 0, .int 0, .int 0, .int 0, .int 0, .int 0, .int 0, .long 0, .int 0, .int 0, .int 0])), (q1, .inl (k.1, 47, .inl tfP)), (q2, .inl (k.1, 47, .inl (pf tabO 24)))] H := hP
  have hD : va_D A [(h0, .inr (9, [.ref q1, .null, .int 0, .int 0, .null, .null, .null, .int 0, .int 0, .int 0, .int 0, .int 0, .int 0, .int 0, .int 0, .int 0, .int 0, .int 0, .int 0, .long 0, .int 0, .int 0, .int 0])), (q1, .inl (k.1, 47, .inl tfP)), (q2, .inl (k.1, 47, .inl (pf tabO 24)))] := hD
  refine lv_dup hx hb d_Mdl_init_469 rfl ?_
  refine lv_bipush (v := 24) hx hb d_Mdl_init_470 (by decide) ?_
  refine lv_bipush (v := 22) hx hb d_Mdl_init_472 (by decide) ?_
  refine va_iast hx hb hK hP hD hS 2 0 rfl rfl (by unfold vp_in; decide +kernel) d_Mdl_init_474 (fun H locs hP hD hS => ?_)
  have hP : va_P D vwCl [(h0, .inr (9, [.ref q1, .null, .int 0, .int 0, .null, .null, .null, .int 0, .int 0, .int 0, .int 0, .int 0, .int 0, .int 0, .int 0, .int 0, .int 0, .int 0, .int 0, .long 0, .int 0, .int 0, .int 0])), (q1, .inl (k.1, 47, .inl tfP)), (q2, .inl (k.1, 47, .inl (upd (pf tabO 24) (24 : Int32).toNatClampNeg 22)))] H := hP
  have hD : va_D A [(h0, .inr (9, [.ref q1, .null, .int 0, .int 0, .null, .null, .null, .int 0, .int 0, .int 0, .int 0, .int 0, .int 0, .int 0, .int 0, .int 0, .int 0, .int 0, .int 0, .long 0, .int 0, .int 0, .int 0])), (q1, .inl (k.1, 47, .inl tfP)), (q2, .inl (k.1, 47, .inl (upd (pf tabO 24) (24 : Int32).toNatClampNeg 22)))] := hD
  rw [pf_s (l := tabO) (j := 24) (v := 22) 24 rfl rfl] at hP hD
  have hP : va_P D vwCl [(h0, .inr (9, [.ref q1, .null, .int 0, .int 0, .null, .null, .null, .int 0, .int 0, .int 0, .int 0, .int 0, .int 0, .int 0, .int 0, .int 0, .int 0, .int 0, .int 0, .long 0, .int 0, .int 0, .int 0])), (q1, .inl (k.1, 47, .inl tfP)), (q2, .inl (k.1, 47, .inl (pf tabO 25)))] H := hP
  have hD : va_D A [(h0, .inr (9, [.ref q1, .null, .int 0, .int 0, .null, .null, .null, .int 0, .int 0, .int 0, .int 0, .int 0, .int 0, .int 0, .int 0, .int 0, .int 0, .int 0, .int 0, .long 0, .int 0, .int 0, .int 0])), (q1, .inl (k.1, 47, .inl tfP)), (q2, .inl (k.1, 47, .inl (pf tabO 25)))] := hD
  refine lv_dup hx hb d_Mdl_init_475 rfl ?_
  refine lv_bipush (v := 25) hx hb d_Mdl_init_476 (by decide) ?_
  refine lv_bipush (v := 23) hx hb d_Mdl_init_478 (by decide) ?_
  refine va_iast hx hb hK hP hD hS 2 0 rfl rfl (by unfold vp_in; decide +kernel) d_Mdl_init_480 (fun H locs hP hD hS => ?_)
  have hP : va_P D vwCl [(h0, .inr (9, [.ref q1, .null, .int 0, .int 0, .null, .null, .null, .int 0, .int 0, .int 0, .int 0, .int 0, .int 0, .int 0, .int 0, .int 0, .int 0, .int 0, .int 0, .long 0, .int 0, .int 0, .int 0])), (q1, .inl (k.1, 47, .inl tfP)), (q2, .inl (k.1, 47, .inl (upd (pf tabO 25) (25 : Int32).toNatClampNeg 23)))] H := hP
  have hD : va_D A [(h0, .inr (9, [.ref q1, .null, .int 0, .int 0, .null, .null, .null, .int 0, .int 0, .int 0, .int 0, .int 0, .int 0, .int 0, .int 0, .int 0, .int 0, .int 0, .int 0, .long 0, .int 0, .int 0, .int 0])), (q1, .inl (k.1, 47, .inl tfP)), (q2, .inl (k.1, 47, .inl (upd (pf tabO 25) (25 : Int32).toNatClampNeg 23)))] := hD
  rw [pf_s (l := tabO) (j := 25) (v := 23) 25 rfl rfl] at hP hD
  have hP : va_P D vwCl [(h0, .inr (9, [.ref q1, .null, .int 0, .int 0, .null, .null, .null, .int 0, .int 0, .int 0, .int 0, .int 0, .int 0, .int 0, .int 0, .int 0, .int 0, .int 0, .int 0, .long 0, .int 0, .int 0, .int 0])), (q1, .inl (k.1, 47, .inl tfP)), (q2, .inl (k.1, 47, .inl (pf tabO 26)))] H := hP
  have hD : va_D A [(h0, .inr (9, [.ref q1, .null, .int 0, .int 0, .null, .null, .null, .int 0, .int 0, .int 0, .int 0, .int 0, .int 0, .int 0, .int 0, .int 0, .int 0, .int 0, .int 0, .long 0, .int 0, .int 0, .int 0])), (q1, .inl (k.1, 47, .inl tfP)), (q2, .inl (k.1, 47, .inl (pf tabO 26)))] := hD
  refine lv_dup hx hb d_Mdl_init_481 rfl ?_
  refine lv_bipush (v := 26) hx hb d_Mdl_init_482 (by decide) ?_
  refine lv_bipush (v := 24) hx hb d_Mdl_init_484 (by decide) ?_
  refine va_iast hx hb hK hP hD hS 2 0 rfl rfl (by unfold vp_in; decide +kernel) d_Mdl_init_486 (fun H locs hP hD hS => ?_)
  have hP : va_P D vwCl [(h0, .inr (9, [.ref q1, .null, .int 0, .int 0, .null, .null, .null, .int 0, .int 0, .int 0, .int 0, .int 0, .int 0, .int 0, .int 0, .int 0, .int 0, .int 0, .int 0, .long 0, .int 0, .int 0, .int 0])), (q1, .inl (k.1, 47, .inl tfP)), (q2, .inl (k.1, 47, .inl (upd (pf tabO 26) (26 : Int32).toNatClampNeg 24)))] H := hP
  have hD : va_D A [(h0, .inr (9, [.ref q1, .null, .int 0, .int 0, .null, .null, .null, .int 0, .int 0, .int 0, .int 0, .int 0, .int 0, .int 0, .int 0, .int 0, .int 0, .int 0, .int 0, .long 0, .int 0, .int 0, .int 0])), (q1, .inl (k.1, 47, .inl tfP)), (q2, .inl (k.1, 47, .inl (upd (pf tabO 26) (26 : Int32).toNatClampNeg 24)))] := hD
  rw [pf_s (l := tabO) (j := 26) (v := 24) 26 rfl rfl] at hP hD
  have hP : va_P D vwCl [(h0, .inr (9, [.ref q1, .null, .int 0, .int 0, .null, .null, .null, .int 0, .int 0, .int 0, .int 0, .int 0, .int 0, .int 0, .int 0, .int 0, .int 0, .int 0, .int 0, .long 0, .int 0, .int 0, .int 0])), (q1, .inl (k.1, 47, .inl tfP)), (q2, .inl (k.1, 47, .inl (pf tabO 27)))] H := hP
  have hD : va_D A [(h0, .inr (9, [.ref q1, .null, .int 0, .int 0, .null, .null, .null, .int 0, .int 0, .int 0, .int 0, .int 0, .int 0, .int 0, .int 0, .int 0, .int 0, .int 0, .int 0, .long 0, .int 0, .int 0, .int 0])), (q1, .inl (k.1, 47, .inl tfP)), (q2, .inl (k.1, 47, .inl (pf tabO 27)))] := hD
  refine lv_dup hx hb d_Mdl_init_487 rfl ?_
  refine lv_bipush (v := 27) hx hb d_Mdl_init_488 (by decide) ?_
  refine lv_bipush (v := 25) hx hb d_Mdl_init_490 (by decide) ?_
  refine va_iast hx hb hK hP hD hS 2 0 rfl rfl (by unfold vp_in; decide +kernel) d_Mdl_init_492 (fun H locs hP hD hS => ?_)
  have hP : va_P D vwCl [(h0, .inr (9, [.ref q1, .null, .int 0, .int 0, .null, .null, .null, .int 0, .int 0, .int 0, .int 0, .int 0, .int 0, .int 0, .int 0, .int 0, .int 0, .int 0, .int 0, .long 0, .int 0, .int 0, .int 0])), (q1, .inl (k.1, 47, .inl tfP)), (q2, .inl (k.1, 47, .inl (upd (pf tabO 27) (27 : Int32).toNatClampNeg 25)))] H := hP
  have hD : va_D A [(h0, .inr (9, [.ref q1, .null, .int 0, .int 0, .null, .null, .null, .int 0, .int 0, .int 0, .int 0, .int 0, .int 0, .int 0, .int 0, .int 0, .int 0, .int 0, .int 0, .long 0, .int 0, .int 0, .int 0])), (q1, .inl (k.1, 47, .inl tfP)), (q2, .inl (k.1, 47, .inl (upd (pf tabO 27) (27 : Int32).toNatClampNeg 25)))] := hD
  rw [pf_s (l := tabO) (j := 27) (v := 25) 27 rfl rfl] at hP hD
  have hP : va_P D vwCl [(h0, .inr (9, [.ref q1, .null, .int 0, .int 0, .null, .null, .null, .int 0, .int 0, .int 0, .int 0, .int 0, .int 0, .int 0, .int 0, .int 0, .int 0, .int 0, .int 0, .long 0, .int 0, .int 0, .int 0])), (q1, .inl (k.1, 47, .inl tfP)), (q2, .inl (k.1, 47, .inl (pf tabO 28)))] H := hP
  have hD : va_D A [(h0, .inr (9, [.ref q1, .null, .int 0, .int 0, .null, .null, .null, .int 0, .int 0, .int 0, .int 0, .int 0, .int 0, .int 0, .int 0, .int 0, .int 0, .int 0, .int 0, .long 0, .int 0, .int 0, .int 0])), (q1, .inl (k.1, 47, .inl tfP)), (q2, .inl (k.1, 47, .inl (pf tabO 28)))] := hD
  refine lv_dup hx hb d_Mdl_init_493 rfl ?_
  refine lv_bipush (v := 28) hx hb d_Mdl_init_494 (by decide) ?_
  refine lv_bipush (v := 26) hx hb d_Mdl_init_496 (by decide) ?_
  refine va_iast hx hb hK hP hD hS 2 0 rfl rfl (by unfold vp_in; decide +kernel) d_Mdl_init_498 (fun H locs hP hD hS => ?_)
  have hP : va_P D vwCl [(h0, .inr (9, [.ref q1, .null, .int 0, .int 0, .null, .null, .null, .int 0, .int 0, .int 0, .int 0, .int 0, .int 0, .int 0, .int 0, .int 0, .int 0, .int 0, .int 0, .long 0, .int 0, .int 0, .int 0])), (q1, .inl (k.1, 47, .inl tfP)), (q2, .inl (k.1, 47, .inl (upd (pf tabO 28) (28 : Int32).toNatClampNeg 26)))] H := hP
  have hD : va_D A [(h0, .inr (9, [.ref q1, .null, .int 0, .int 0, .null, .null, .null, .int 0, .int 0, .int 0, .int 0, .int 0, .int 0, .int 0, .int 0, .int 0, .int 0, .int 0, .int 0, .long 0, .int 0, .int 0, .int 0])), (q1, .inl (k.1, 47, .inl tfP)), (q2, .inl (k.1, 47, .inl (upd (pf tabO 28) (28 : Int32).toNatClampNeg 26)))] := hD
  rw [pf_s (l := tabO) (j := 28) (v := 26) 28 rfl rfl] at hP hD
  have hP : va_P D vwCl [(h0, .inr (9, [.ref q1, .null, .int 0, .int 0, .null, .null, .null, .int 0, .int 0, .int 0, .int 0, .int 0, .int 0, .int 0, .int 0, .int 0, .int 0, .int 0, .int 0, .long 0, .int 0, .int 0, .int 0])), (q1, .inl (k.1, 47, .inl tfP)), (q2, .inl (k.1, 47, .inl (pf tabO 29)))] H := hP
  have hD : va_D A [(h0, .inr (9, [.ref q1, .null, .int 0, .int 0, .null, .null, .null, .int 0, .int 0, .int 0, .int 0, .int 0, .int 0, .int 0, .int 0, .int 0, .int 0, .int 0, .int 0, .long 0, .int 0, .int 0, .int 0])), (q1, .inl (k.1, 47, .inl tfP)), (q2, .inl (k.1, 47, .inl (pf tabO 29)))] := hD
  refine lv_dup hx hb d_Mdl_init_499 rfl ?_
  refine lv_bipush (v := 29) hx hb d_Mdl_init_500 (by decide) ?_
  refine lv_bipush (v := 27) hx hb d_Mdl_init_502 (by decide) ?_
  refine va_iast hx hb hK hP hD hS 2 0 rfl rfl (by unfold vp_in; decide +kernel) d_Mdl_init_504 (fun H locs hP hD hS => ?_)
  have hP : va_P D vwCl [(h0, .inr (9, [.ref q1, .null, .int 0, .int 0, .null, .null, .null, .int 0, .int 0, .int 0, .int 0, .int 0, .int 0, .int 0, .int 0, .int 0, .int 0, .int 0, .int 0, .long 0, .int 0, .int 0, .int 0])), (q1, .inl (k.1, 47, .inl tfP)), (q2, .inl (k.1, 47, .inl (upd (pf tabO 29) (29 : Int32).toNatClampNeg 27)))] H := hP
  have hD : va_D A [(h0, .inr (9, [.ref q1, .null, .int 0, .int 0, .null, .null, .null, .int 0, .int 0, .int 0, .int 0, .int 0, .int 0, .int 0, .int 0, .int 0, .int 0, .int 0, .int 0, .long 0, .int 0, .int 0, .int 0])), (q1, .inl (k.1, 47, .inl tfP)), (q2, .inl (k.1, 47, .inl (upd (pf tabO 29) (29 : Int32).toNatClampNeg 27)))] := hD
  rw [pf_s (l := tabO) (j := 29) (v := 27) 29 rfl rfl] at hP hD
  have hP : va_P D vwCl [(h0, .inr (9, [.ref q1, .null, .int 0, .int 0, .null, .null, .null, .int 0, .int 0, .int 0, .int 0, .int 0, .int 0, .int 0, .int 0, .int 0, .int 0, .int 0, .int 0, .long 0, .int 0, .int 0, .int 0])), (q1, .inl (k.1, 47, .inl tfP)), (q2, .inl (k.1, 47, .inl (pf tabO 30)))] H := hP
  have hD : va_D A [(h0, .inr (9, [.ref q1, .null, .int 0, .int 0, .null, .null, .null, .int 0, .int 0, .int 0, .int 0, .int 0, .int 0, .int 0, .int 0, .int 0, .int 0, .int 0, .int 0, .long 0, .int 0, .int 0, .int 0])), (q1, .inl (k.1, 47, .inl tfP)), (q2, .inl (k.1, 47, .inl (pf tabO 30)))] := hD
  refine lv_dup hx hb d_Mdl_init_505 rfl ?_
  refine lv_bipush (v := 30) hx hb d_Mdl_init_506 (by decide) ?_
  refine lv_bipush (v := 28) hx hb d_Mdl_init_508 (by decide) ?_
  refine va_iast hx hb hK hP hD hS 2 0 rfl rfl (by unfold vp_in; decide +kernel) d_Mdl_init_510 (fun H locs hP hD hS => ?_)
  have hP : va_P D vwCl [(h0, .inr (9, [.ref q1, .null, .int 0, .int 0, .null, .null, .null, .int 0, .int 0, .int 0, .int 0, .int 0, .int 0, .int 0, .int 0, .int 0, .int 0, .int 0, .int 0, .long 0, .int 0, .int 0, .int 0])), (q1, .inl (k.1, 47, .inl tfP)), (q2, .inl (k.1, 47, .inl (upd (pf tabO 30) (30 : Int32).toNatClampNeg 28)))] H := hP
  have hD : va_D A [(h0, .inr (9, [.ref q1, .null, .int 0, .int 0, .null, .null, .null, .int 0, .int 0, .int 0, .int 0, .int 0, .int 0, .int 0, .int 0, .int 0, .int 0, .int 0, .int 0, .long 0, .int 0, .int 0, .int 0])), (q1, .inl (k.1, 47, .inl tfP)), (q2, .inl (k.1, 47, .inl (upd (pf tabO 30) (30 : Int32).toNatClampNeg 28)))] := hD
  rw [pf_s (l := tabO) (j := 30) (v := 28) 30 rfl rfl] at hP hD
  have hP : va_P D vwCl [(h0, .inr (9, [.ref q1, .null, .int 0, .int 0, .null, .null, .null, .int 0, .int 0, .int 0, .int 0, .int 0, .int 0, .int 0, .int 0, .int 0, .int 0, .int 0, .int 0, .long 0, .int 0, .int 0, .int 0])), (q1, .inl (k.1, 47, .inl tfP)), (q2, .inl (k.1, 47, .inl (pf tabO 31)))] H := hP
  have hD : va_D A [(h0, .inr (9, [.ref q1, .null, .int 0, .int 0, .null, .null, .null, .int 0, .int 0, .int 0, .int 0, .int 0, .int 0, .int 0, .int 0, .int 0, .int 0, .int 0, .int 0, .long 0, .int 0, .int 0, .int 0])), (q1, .inl (k.1, 47, .inl tfP)), (q2, .inl (k.1, 47, .inl (pf tabO 31)))] := hD
  refine lv_dup hx hb d_Mdl_init_511 rfl ?_
  refine lv_bipush (v := 31) hx hb d_Mdl_init_512 (by decide) ?_
  refine lv_bipush (v := 29) hx hb d_Mdl_init_514 (by decide) ?_
  refine va_iast hx hb hK hP hD hS 2 0 rfl rfl (by unfold vp_in; decide +kernel) d_Mdl_init_516 (fun H locs hP hD hS => ?_)
  have hP : va_P D vwCl [(h0, .inr (9, [.ref q1, .null, .int 0, .int 0, .null, .null, .null, .int 0, .int 0, .int 0, .int 0, .int 0, .int 0, .int 0, .int 0, .int 0, .int 0, .int 0, .int 0, .long 0, .int 0, .int 0, .int 0])), (q1, .inl (k.1, 47, .inl tfP)), (q2, .inl (k.1, 47, .inl (upd (pf tabO 31) (31 : Int32).toNatClampNeg 29)))] H := hP
  have hD : va_D A [(h0, .inr (9, [.ref q1, .null, .int 0, .int 0, .null, .null, .null, .int 0, .int 0, .int 0, .int 0, .int 0, .int 0, .int 0, .int 0, .int 0, .int 0, .int 0, .int 0, .long 0, .int 0, .int 0, .int 0])), (q1, .inl (k.1, 47, .inl tfP)), (q2, .inl (k.1, 47, .inl (upd (pf tabO 31) (31 : Int32).toNatClampNeg 29)))] := hD
  rw [pf_s (l := tabO) (j := 31) (v := 29) 31 rfl rfl] at hP hD
  have hP : va_P D vwCl [(h0, .inr (9, [.ref q1, .null, .int 0, .int 0, .null, .null, .null, .int 0, .int 0, .int 0, .int 0, .int 0, .int 0, .int 0, .int 0, .int 0, .int 0, .int 0, .int 0, .long 0, .int 0, .int 0, .int 0])), (q1, .inl (k.1, 47, .inl tfP)), (q2, .inl (k.1, 47, .inl (pf tabO 32)))] H := hP
  have hD : va_D A [(h0, .inr (9, [.ref q1, .null, .int 0, .int 0, .null, .null, .null, .int 0, .int 0, .int 0, .int 0, .int 0, .int 0, .int 0, .int 0, .int 0, .int 0, .int 0, .int 0, .long 0, .int 0, .int 0, .int 0])), (q1, .inl (k.1, 47, .inl tfP)), (q2, .inl (k.1, 47, .inl (pf tabO 32)))] := hD
  refine lv_dup hx hb d_Mdl_init_517 rfl ?_
  refine lv_bipush (v := 32) hx hb d_Mdl_init_518 (by decide) ?_
  refine lv_bipush (v := 30) hx hb d_Mdl_init_520 (by decide) ?_
  refine va_iast hx hb hK hP hD hS 2 0 rfl rfl (by unfold vp_in; decide +kernel) d_Mdl_init_522 (fun H locs hP hD hS => ?_)
  have hP : va_P D vwCl [(h0, .inr (9, [.ref q1, .null, .int 0, .int 0, .null, .null, .null, .int 0, .int 0, .int 0, .int 0, .int 0, .int 0, .int 0, .int 0, .int 0, .int 0, .int 0, .int 0, .long 0, .int 0, .int 0, .int 0])), (q1, .inl (k.1, 47, .inl tfP)), (q2, .inl (k.1, 47, .inl (upd (pf tabO 32) (32 : Int32).toNatClampNeg 30)))] H := hP
  have hD : va_D A [(h0, .inr (9, [.ref q1, .null, .int 0, .int 0, .null, .null, .null, .int 0, .int 0, .int 0, .int 0, .int 0, .int 0, .int 0, .int 0, .int 0, .int 0, .int 0, .int 0, .long 0, .int 0, .int 0, .int 0])), (q1, .inl (k.1, 47, .inl tfP)), (q2, .inl (k.1, 47, .inl (upd (pf tabO 32) (32 : Int32).toNatClampNeg 30)))] := hD
  rw [pf_s (l := tabO) (j := 32) (v := 30) 32 rfl rfl] at hP hD
  have hP : va_P D vwCl [(h0, .inr (9, [.ref q1, .null, .int 0, .int 0, .null, .null, .null, .int 0, .int 0, .int 0, .int 0, .int 0, .int 0, .int 0, .int 0, .int 0, .int 0, .int 0, .int 0, .long 0, .int 0, .int 0, .int 0])), (q1, .inl (k.1, 47, .inl tfP)), (q2, .inl (k.1, 47, .inl (pf tabO 33)))] H := hP
  have hD : va_D A [(h0, .inr (9, [.ref q1, .null, .int 0, .int 0, .null, .null, .null, .int 0, .int 0, .int 0, .int 0, .int 0, .int 0, .int 0, .int 0, .int 0, .int 0, .int 0, .int 0, .long 0, .int 0, .int 0, .int 0])), (q1, .inl (k.1, 47, .inl tfP)), (q2, .inl (k.1, 47, .inl (pf tabO 33)))] := hD
  refine lv_dup hx hb d_Mdl_init_523 rfl ?_
  refine lv_bipush (v := 33) hx hb d_Mdl_init_524 (by decide) ?_
  refine lv_bipush (v := 31) hx hb d_Mdl_init_526 (by decide) ?_
  refine va_iast hx hb hK hP hD hS 2 0 rfl rfl (by unfold vp_in; decide +kernel) d_Mdl_init_528 (fun H locs hP hD hS => ?_)
  have hP : va_P D vwCl [(h0, .inr (9, [.ref q1, .null, .int 0, .int 0, .null, .null, .null, .int 0, .int 0, .int 0, .int 0, .int 0, .int 0, .int 0, .int 0, .int 0, .int 0, .int 0, .int 0, .long 0, .int 0, .int 0, .int 0])), (q1, .inl (k.1, 47, .inl tfP)), (q2, .inl (k.1, 47, .inl (upd (pf tabO 33) (33 : Int32).toNatClampNeg 31)))] H := hP
  have hD : va_D A [(h0, .inr (9, [.ref q1, .null, .int 0, .int 0, .null, .null, .null, .int 0, .int 0, .int 0, .int 0, .int 0, .int 0, .int 0, .int 0, .int 0, .int 0, .int 0, .int 0, .long 0, .int 0, .int 0, .int 0])), (q1, .inl (k.1, 47, .inl tfP)), (q2, .inl (k.1, 47, .inl (upd (pf tabO 33) (33 : Int32).toNatClampNeg 31)))] := hD
  rw [pf_s (l := tabO) (j := 33) (v := 31) 33 rfl rfl] at hP hD
  have hP : va_P D vwCl [(h0, .inr (9, [.ref q1, .null, .int 0, .int 0, .null, .null, .null, .int 0, .int 0, .int 0, .int 0, .int 0, .int 0, .int 0, .int 0, .int 0, .int 0, .int 0, .int 0, .long 0, .int 0, .int 0, .int 0])), (q1, .inl (k.1, 47, .inl tfP)), (q2, .inl (k.1, 47, .inl (pf tabO 34)))] H := hP
  have hD : va_D A [(h0, .inr (9, [.ref q1, .null, .int 0, .int 0, .null, .null, .null, .int 0, .int 0, .int 0, .int 0, .int 0, .int 0, .int 0, .int 0, .int 0, .int 0, .int 0, .int 0, .long 0, .int 0, .int 0, .int 0])), (q1, .inl (k.1, 47, .inl tfP)), (q2, .inl (k.1, 47, .inl (pf tabO 34)))] := hD
  refine lv_dup hx hb d_Mdl_init_529 rfl ?_
  refine lv_bipush (v := 34) hx hb d_Mdl_init_530 (by decide) ?_
  refine lv_bipush (v := 32) hx hb d_Mdl_init_532 (by decide) ?_
  refine va_iast hx hb hK hP hD hS 2 0 rfl rfl (by unfold vp_in; decide +kernel) d_Mdl_init_534 (fun H locs hP hD hS => ?_)
  have hP : va_P D vwCl [(h0, .inr (9, [.ref q1, .null, .int 0, .int 0, .null, .null, .null, .int 0, .int 0, .int 0, .int 0, .int 0, .int 0, .int 0, .int 0, .int 0, .int 0, .int 0, .int 0, .long 0, .int 0, .int 0, .int 0])), (q1, .inl (k.1, 47, .inl tfP)), (q2, .inl (k.1, 47, .inl (upd (pf tabO 34) (34 : Int32).toNatClampNeg 32)))] H := hP
  have hD : va_D A [(h0, .inr (9, [.ref q1, .null, .int 0, .int 0, .null, .null, .null, .int 0, .int 0, .int 0, .int 0, .int 0, .int 0, .int 0, .int 0, .int 0, .int 0, .int 0, .int 0, .long 0, .int 0, .int 0, .int 0])), (q1, .inl (k.1, 47, .inl tfP)), (q2, .inl (k.1, 47, .inl (upd (pf tabO 34) (34 : Int32).toNatClampNeg 32)))] := hD
  rw [pf_s (l := tabO) (j := 34) (v := 32) 34 rfl rfl] at hP hD
  have hP : va_P D vwCl [(h0, .inr (9, [.ref q1, .null, .int 0, .int 0, .null, .null, .null, .int 0, .int 0, .int 0, .int 0, .int 0, .int 0, .int 0, .int 0, .int 0, .int 0, .int 0, .int 0, .long 0, .int 0, .int 0, .int 0])), (q1, .inl (k.1, 47, .inl tfP)), (q2, .inl (k.1, 47, .inl (pf tabO 35)))] H := hP
  have hD : va_D A [(h0, .inr (9, [.ref q1, .null, .int 0, .int 0, .null, .null, .null, .int 0, .int 0, .int 0, .int 0, .int 0, .int 0, .int 0, .int 0, .int 0, .int 0, .int 0, .int 0, .long 0, .int 0, .int 0, .int 0])), (q1, .inl (k.1, 47, .inl tfP)), (q2, .inl (k.1, 47, .inl (pf tabO 35)))] := hD
  refine lv_dup hx hb d_Mdl_init_535 rfl ?_
  refine lv_bipush (v := 35) hx hb d_Mdl_init_536 (by decide) ?_
  refine lv_bipush (v := 33) hx hb d_Mdl_init_538 (by decide) ?_
  refine va_iast hx hb hK hP hD hS 2 0 rfl rfl (by unfold vp_in; decide +kernel) d_Mdl_init_540 (fun H locs hP hD hS => ?_)
  have hP : va_P D vwCl [(h0, .inr (9, [.ref q1, .null, .int 0, .int 0, .null, .null, .null, .int 0, .int 0, .int 0, .int 0, .int 0, .int 0, .int 0, .int 0, .int 0, .int 0, .int 0, .int 0, .long 0, .int 0, .int 0, .int 0])), (q1, .inl (k.1, 47, .inl tfP)), (q2, .inl (k.1, 47, .inl (upd (pf tabO 35) (35 : Int32).toNatClampNeg 33)))] H := hP
  have hD : va_D A [(h0, .inr (9, [.ref q1, .null, .int 0, .int 0, .null, .null, .null, .int 0, .int 0, .int 0, .int 0, .int 0, .int 0, .int 0, .int 0, .int 0, .int 0, .int 0, .int 0, .long 0, .int 0, .int 0, .int 0])), (q1, .inl (k.1, 47, .inl tfP)), (q2, .inl (k.1, 47, .inl (upd (pf tabO 35) (35 : Int32).toNatClampNeg 33)))] := hD
  rw [pf_s (l := tabO) (j := 35) (v := 33) 35 rfl rfl] at hP hD
  have hP : va_P D vwCl [(h0, .inr (9, [.ref q1, .null, .int 0, .int 0, .null, .null, .null, .int 0, .int 0, .int 0, .int 0, .int 0, .int 0, .int 0, .int 0, .int 0, .int 0, .int 0, .int 0, .long 0, .int 0, .int 0, .int 0])), (q1, .inl (k.1, 47, .inl tfP)), (q2, .inl (k.1, 47, .inl (pf tabO 36)))] H := hP
  have hD : va_D A [(h0, .inr (9, [.ref q1, .null, .int 0, .int 0, .null, .null, .null, .int 0, .int 0, .int 0, .int 0, .int 0, .int 0, .int 0, .int 0, .int 0, .int 0, .int 0, .int 0, .long 0, .int 0, .int 0, .int 0])), (q1, .inl (k.1, 47, .inl tfP)), (q2, .inl (k.1, 47, .inl (pf tabO 36)))] := hD
  refine lv_dup hx hb d_Mdl_init_541 rfl ?_
  refine lv_bipush (v := 36) hx hb d_Mdl_init_542 (by decide) ?_
  refine lv_bipush (v := 34) hx hb d_Mdl_init_544 (by decide) ?_
  refine va_iast hx hb hK hP hD hS 2 0 rfl rfl (by unfold vp_in; decide +kernel) d_Mdl_init_546 (fun H locs hP hD hS => ?_)
  have hP : va_P D vwCl [(h0, .inr (9, [.ref q1, .null, .int 0, .int 0, .null, .null, .null, .int 0, .int 0, .int 0, .int 0, .int 0, .int 0, .int 0, .int 0, .int 0, .int 0, .int 0, .int 0, .long 0, .int 0, .int 0, .int 0])), (q1, .inl (k.1, 47, .inl tfP)), (q2, .inl (k.1, 47, .inl (upd (pf tabO 36) (36 : Int32).toNatClampNeg 34)))] H := hP
  have hD : va_D A [(h0, .inr (9, [.ref q1, .null, .int 0, .int 0, .null, .null, .null, .int 0, .int 0, .int 0, .int 0, .int 0, .int 0, .int 0, .int 0, .int 0, .int 0, .int 0, .int 0, .long 0, .int 0, .int 0, .int 0])), (q1, .inl (k.1, 47, .inl tfP)), (q2, .inl (k.1, 47, .inl (upd (pf tabO 36) (36 : Int32).toNatClampNeg 34)))] := hD
  rw [pf_s (l := tabO) (j := 36) (v := 34) 36 rfl rfl] at hP hD
  have hP : va_P D vwCl [(h0, .inr (9, [.ref q1, .null, .int 0, .int 0, .null, .null, .null, .int 0, .int 0, .int 0, .int 0, .int 0, .int 0, .int 0, .int 0, .int 0, .int 0, .int 0, .int 0, .long 0, .int 0, .int 0, .int 0])), (q1, .inl (k.1, 47, .inl tfP)), (q2, .inl (k.1, 47, .inl (pf tabO 37)))] H := hP
  have hD : va_D A [(h0, .inr (9, [.ref q1, .null, .int 0, .int 0, .null, .null, .null, .int 0, .int 0, .int 0, .int 0, .int 0, .int 0, .int 0, .int 0, .int 0, .int 0, .int 0, .int 0, .long 0, .int 0, .int 0, .int 0])), (q1, .inl (k.1, 47, .inl tfP)), (q2, .inl (k.1, 47, .inl (pf tabO 37)))] := hD
  refine lv_dup hx hb d_Mdl_init_547 rfl ?_
  refine lv_bipush (v := 37) hx hb d_Mdl_init_548 (by decide) ?_
  refine lv_bipush (v := 35) hx hb d_Mdl_init_550 (by decide) ?_
  refine va_iast hx hb hK hP hD hS 2 0 rfl rfl (by unfold vp_in; decide +kernel) d_Mdl_init_552 (fun H locs hP hD hS => ?_)
  have hP : va_P D vwCl [(h0, .inr (9, [.ref q1, .null, .int 0, .int 0, .null, .null, .null, .int 0, .int 0, .int 0, .int 0, .int 0, .int 0, .int 0, .int 0, .int 0, .int 0, .int 0, .int 0, .long 0, .int 0, .int 0, .int 0])), (q1, .inl (k.1, 47, .inl tfP)), (q2, .inl (k.1, 47, .inl (upd (pf tabO 37) (37 : Int32).toNatClampNeg 35)))] H := hP
  have hD : va_D A [(h0, .inr (9, [.ref q1, .null, .int 0, .int 0, .null, .null, .null, .int 0, .int 0, .int 0, .int 0, .int 0, .int 0, .int 0, .int 0, .int 0, .int 0, .int 0, .int 0, .long 0, .int 0, .int 0, .int 0])), (q1, .inl (k.1, 47, .inl tfP)), (q2, .inl (k.1, 47, .inl (upd (pf tabO 37) (37 : Int32).toNatClampNeg 35)))] := hD
  rw [pf_s (l := tabO) (j := 37) (v := 35) 37 rfl rfl] at hP hD
  have hP : va_P D vwCl [(h0, .inr (9, [.ref q1, .null, .int 0, .int 0, .null, .null, .null, .int 0, .int 0, .int 0, .int 0, .int 0, .int 0, .int 0, .int 0, .int 0, .int 0, .int 0, .int 0, .long 0, .int 0, .int 0, .int 0])), (q1, .inl (k.1, 47, .inl tfP)), (q2, .inl (k.1, 47, .inl (pf tabO 38)))] H := hP
  have hD : va_D A [(h0, .inr (9, [.ref q1, .null, .int 0, .int 0, .null, .null, .null, .int 0, .int 0, .int 0, .int 0, .int 0, .int 0, .int 0, .int 0, .int 0, .int 0, .int 0, .int 0, .long 0, .int 0, .int 0, .int 0])), (q1, .inl (k.1, 47, .inl tfP)), (q2, .inl (k.1, 47, .inl (pf tabO 38)))] := hD
  refine lv_dup hx hb d_Mdl_init_553 rfl ?_
  refine lv_bipush (v := 38) hx hb d_Mdl_init_554 (by decide) ?_
  refine lv_bipush (v := 36) hx hb d_Mdl_init_556 (by decide) ?_
  refine va_iast hx hb hK hP hD hS 2 0 rfl rfl (by unfold vp_in; decide +kernel) d_Mdl_init_558 (fun H locs hP hD hS => ?_)
  have hP : va_P D vwCl [(h0, .inr (9, [.ref q1, .null, .int 0, .int 0, .null, .null, .null, .int 0, .int 0, .int 0, .int 0, .int 0, .int 0, .int 0, .int 0, .int 0, .int 0, .int 0, .int 0, .long 0, .int 0, .int 0, .int 0])), (q1, .inl (k.1, 47, .inl tfP)), (q2, .inl (k.1, 47, .inl (upd (pf tabO 38) (38 : Int32).toNatClampNeg 36)))] H := hP
  have hD : va_D A [(h0, .inr (9, [.ref q1, .null, .int 0, .int 0, .null, .null, .null, .int 0, .int 0, .int 0, .int 0, .int 0, .int 0, .int 0, .int 0, .int 0, .int 0, .int 0, .int 0, .long 0, .int 0, .int 0, .int 0])), (q1, .inl (k.1, 47, .inl tfP)), (q2, .inl (k.1, 47, .inl (upd (pf tabO 38) (38 : Int32).toNatClampNeg 36)))] := hD
  rw [pf_s (l := tabO) (j := 38) (v := 36) 38 rfl rfl] at hP hD
  have hP : va_P D vwCl [(h0, .inr (9, [.ref q1, .null, .int 0, .int 0, .null, .null, .null, .int 0, .int 0, .int 0, .int 0, .int 0, .int 0, .int 0, .int 0, .int 0, .int 0, .int 0, .int 0, .long 0, .int 0, .int 0, .int 0])), (q1, .inl (k.1, 47, .inl tfP)), (q2, .inl (k.1, 47, .inl (pf tabO 39)))] H := hP
  have hD : va_D A [(h0, .inr (9, [.ref q1, .null, .int 0, .int 0, .null, .null, .null, .int 0, .int 0, .int 0, .int 0, .int 0, .int 0, .int 0, .int 0, .int 0, .int 0, .int 0, .int 0, .long 0, .int 0, .int 0, .int 0])), (q1, .inl (k.1, 47, .inl tfP)), (q2, .inl (k.1, 47, .inl (pf tabO 39)))] := hD
  refine lv_dup hx hb d_Mdl_init_559 rfl ?_
  refine lv_bipush (v := 39) hx hb d_Mdl_init_560 (by decide) ?_
  refine lv_bipush (v := 37) hx hb d_Mdl_init_562 (by decide) ?_
  refine va_iast hx hb hK hP hD hS 2 0 rfl rfl (by unfold vp_in; decide +kernel) d_Mdl_init_564 (fun H locs hP hD hS => ?_)
  have hP : va_P D vwCl [(h0, .inr (9, [.ref q1, .null, .int 0, .int 0, .null, .null, .null, .int 0, .int 0, .int 0, .int 0, .int 0, .int 0, .int 0, .int 0, .int 0, .int 0, .int 0, .int 0, .long 0, .int 0, .int 0, .int 0])), (q1, .inl (k.1, 47, .inl tfP)), (q2, .inl (k.1, 47, .inl (upd (pf tabO 39) (39 : Int32).toNatClampNeg 37)))] H := hP
  have hD : va_D A [(h0, .inr (9, [.ref q1, .null, .int 0, .int 0, .null, .null, .null, .int 0, .int 0, .int 0, .int 0, .int 0, .int 0, .int 0, .int 0, .int 0, .int 0, .int 0, .int 0, .long 0, .int 0, .int 0, .int 0])), (q1, .inl (k.1, 47, .inl tfP)), (q2, .inl (k.1, 47, .inl (upd (pf tabO 39) (39 : Int32).toNatClampNeg 37)))] := hD
  rw [pf_s (l := tabO) (j := 39) (v := 37) 39 rfl rfl] at hP hD
  have hP : va_P D vwCl [(h0, .inr (9, [.ref q1, .null, .int 0, .int 0, .null, .null, .null, .int 0, .int 0, .int 0, .int 0, .int 0, .int 0, .int 0, .int 0, .int 0, .int 0, .int 0, .int 0, .long 0, .int 0, .int 0, .int 0])), (q1, .inl (k.1, 47, .inl tfP)), (q2, .inl (k.1, 47, .inl (pf tabO 40)))] H := hP
  have hD : va_D A [(h0, .inr (9, [.ref q1, .null, .int 0, .int 0, .null, .null, .null, .int 0, .int 0, .int 0, .int 0, .int 0, .int 0, .int 0, .int 0, .int 0, .int 0, .int 0, .int 0, .long 0, .int 0, .int 0, .int 0])), (q1, .inl (k.1, 47, .inl tfP)), (q2, .inl (k.1, 47, .inl (pf tabO 40)))] := hD
  refine lv_dup hx hb d_Mdl_init_565 rfl ?_
  refine lv_bipush (v := 40) hx hb d_Mdl_init_566 (by decide) ?_
  refine lv_bipush (v := 38) hx hb d_Mdl_init_568 (by decide) ?_
  refine va_iast hx hb hK hP hD hS 2 0 rfl rfl (by unfold vp_in; decide +kernel) d_Mdl_init_570 (fun H locs hP hD hS => ?_)
  have hP : va_P D vwCl [(h0, .inr (9, [.ref q1, .null, .int 0, .int 0, .null, .null, .null, .int 0, .int 0, .int 0, .int 0, .int 0, .int 0, .int 0, .int 0, .int 0, .int 0, .int 0, .int 0, .long 0, .int 0, .int 0, .int 0])), (q1, .inl (k.1, 47, .inl tfP)), (q2, .inl (k.1, 47, .inl (upd (pf tabO 40) (40 : Int32).toNatClampNeg 38)))] H := hP
  have hD : va_D A [(h0, .inr (9, [.ref q1, .null, .int 0, .int 0, .null, .null, .null, .int 0, .int 0, .int 0, .int 0, .int 0, .int 0, .int 0, .int 0, .int 0, .int 0, .int 0, .int 0, .long 0, .int 0, .int 0, .int 0])), (q1, .inl (k.1, 47, .inl tfP)), (q2, .inl (k.1, 47, .inl (upd (pf tabO 40) (40 : Int32).toNatClampNeg 38)))] := hD
  rw [pf_s (l := tabO) (j := 40) (v := 38) 40 rfl rfl] at hP hD
  have hP : va_P D vwCl [(h0, .inr (9, [.ref q1, .null, .int 0, .int 0, .null, .null, .null, .int 0, .int 0, .int 0, .int 0, .int 0, .int 0, .int 0, .int 0, .int 0, .int 0, .int 0, .int 0, .long 0, .int 0, .int 0, .int 0])), (q1, .inl (k.1, 47, .inl tfP)), (q2, .inl (k.1, 47, .inl (pf tabO 41)))] H := hP
  have hD : va_D A [(h0, .inr (9, [.ref q1, .null, .int 0, .int 0, .null, .null, .null, .int 0, .int 0, .int 0, .int 0, .int 0, .int 0, .int 0, .int 0, .int 0, .int 0, .int 0, .int 0, .long 0, .int 0, .int 0, .int 0])), (q1, .inl (k.1, 47, .inl tfP)), (q2, .inl (k.1, 47, .inl (pf tabO 41)))] := hD
  refine lv_dup hx hb d_Mdl_init_571 rfl ?_
  refine lv_bipush (v := 41) hx hb d_Mdl_init_572 (by decide) ?_
  refine lv_bipush (v := 39) hx hb d_Mdl_init_574 (by decide) ?_
  refine va_iast hx hb hK hP hD hS 2 0 rfl rfl (by unfold vp_in; decide +kernel) d_Mdl_init_576 (fun H locs hP hD hS => ?_)
  have hP : va_P D vwCl [(h0, .inr (9, [.ref q1, .null, .int 0, .int 0, .null, .null, .null, .int 0, .int 0, .int 0, .int 0, .int 0, .int 0, .int 0, .int 0, .int 0, .int 0, .int 0, .int 0, .long 0, .int 0, .int 0, .int 0])), (q1, .inl (k.1, 47, .inl tfP)), (q2, .inl (k.1, 47, .inl (upd (pf tabO 41) (41 : Int32).toNatClampNeg 39)))] H := hP
  have hD : va_D A [(h0, .inr (9, [.ref q1, .null, .int 0, .int 0, .null, .null, .null, .int 0, .int 0, .int 0, .int 0, .int 0, .int 0, .int 0, .int 0, .int 0, .int 0, .int 0, .int 0, .long 0, .int 0, .int 0, .int 0])), (q1, .inl (k.1, 47, .inl tfP)), (q2, .inl (k.1, 47, .inl (upd (pf tabO 41) (41 : Int32).toNatClampNeg 39)))] := hD
  rw [pf_s (l := tabO) (j := 41) (v := 39) 41 rfl rfl] at hP hD
  have hP : va_P D vwCl [(h0, .inr (9, [.ref q1, .null, .int 0, .int 0, .null, .null, .null, .int 0, .int 0, .int 0, .int 0, .int 0, .int 0, .int 0, .int 0, .int 0, .int 0, .int 0, .int 0, .long 0, .int 0, .int 0, .int 0])), (q1, .inl (k.1, 47, .inl tfP)), (q2, .inl (k.1, 47, .inl (pf tabO 42)))] H := hP
  have hD : va_D A [(h0, .inr (9, [.ref q1, .null, .int 0, .int 0, .null, .null, .null, .int 0, .int 0, .int 0, .int 0, .int 0, .int 0, .int 0, .int 0, .int 0, .int 0, .int 0, .int 0, .long 0, .int 0, .int 0, .int 0])), (q1, .inl (k.1, 47, .inl tfP)), (q2, .inl (k.1, 47, .inl (pf tabO 42)))] := hD
  refine lv_dup hx hb d_Mdl_init_577 rfl ?_
  refine lv_bipush (v := 42) hx hb d_Mdl_init_578 (by decide) ?_
  refine lv_bipush (v := 40) hx hb d_Mdl_init_580 (by decide) ?_
  refine va_iast hx hb hK hP hD hS 2 0 rfl rfl (by unfold vp_in; decide +kernel) d_Mdl_init_582 (fun H locs hP hD hS => ?_)
  have hP : va_P D vwCl [(h0, .inr (9, [.ref q1, .null, .int 0, .int 0, .null, .null, .null, .int 0, .int 0, .int 0, .int 0, .int 0, .int 0, .int 0, .int 0, .int 0, .int 0, .int 0, .int 0, .long 0, .int 0, .int 0, .int 0])), (q1, .inl (k.1, 47, .inl tfP)), (q2, .inl (k.1, 47, .inl (upd (pf tabO 42) (42 : Int32).toNatClampNeg 40)))] H := hP
  have hD : va_D A [(h0, .inr (9, [.ref q1, .null, .int 0, .int 0, .null, .null, .null, .int 0, .int 0, .int 0, .int 0, .int 0, .int 0, .int 0, .int 0, .int 0, .int 0, .int 0, .int 0, .long 0, .int 0, .int 0, .int 0])), (q1, .inl (k.1, 47, .inl tfP)), (q2, .inl (k.1, 47, .inl (upd (pf tabO 42) (42 : Int32).toNatClampNeg 40)))] := hD
  rw [pf_s (l := tabO) (j := 42) (v := 40) 42 rfl rfl] at hP hD
  have hP : va_P D vwCl [(h0, .inr (9, [.ref q1, .null, .int 0, .int 0, .null, .null, .null, .int 0, .int 0, .int 0, .int 0, .int 0, .int 0, .int 0, .int 0, .int 0, .int 0, .int 0, .int 0, .long 0, .int 0, .int 0, .int 0])), (q1, .inl (k.1, 47, .inl tfP)), (q2, .inl (k.1, 47, .inl (pf tabO 43)))] H := hP
  have hD : va_D A [(h0, .inr (9, [.ref q1, .null, .int 0, .int 0, .null, .null, .null, .int 0, .int 0, .int 0, .int 0, .int 0, .int 0, .int 0, .int 0, .int 0, .int 0, .int 0, .int 0, .long 0, .int 0, .int 0, .int 0])), (q1, .inl (k.1, 47, .inl tfP)), (q2, .inl (k.1, 47, .inl (pf tabO 43)))] := hD
  refine lv_dup hx hb d_Mdl_init_583 rfl ?_
  refine lv_bipush (v := 43) hx hb d_Mdl_init_584 (by decide) ?_
  refine lv_bipush (v := 41) hx hb d_Mdl_init_586 (by decide) ?_
  refine va_iast hx hb hK hP hD hS 2 0 rfl rfl (by unfold vp_in; decide +kernel) d_Mdl_init_588 (fun H locs hP hD hS => ?_)
  have hP : va_P D vwCl [(h0, .inr (9, [.ref q1, .null, .int 0, .int 0, .null, .null, .null, .int 0, .int 0, .int 0, .int 0, .int 0, .int 0, .int 0, .int 0, .int 0, .int 0, .int 0, .int 0, .long 0, .int 0, .int 0, .int 0])), (q1, .inl (k.1, 47, .inl tfP)), (q2, .inl (k.1, 47, .inl (upd (pf tabO 43) (43 : Int32).toNatClampNeg 41)))] H := hP
  have hD : va_D A [(h0, .inr (9, [.ref q1, .null, .int 0, .int 0, .null, .null, .null, .int 0, .int 0, .int 0, .int 0, .int 0, .int 0, .int 0, .int 0, .int 0, .int 0, .int 0, .int 0, .long 0, .int 0, .int 0, .int 0])), (q1, .inl (k.1, 47, .inl tfP)), (q2, .inl (k.1, 47, .inl (upd (pf tabO 43) (43 : Int32).toNatClampNeg 41)))] := hD
  rw [pf_s (l := tabO) (j := 43) (v := 41) 43 rfl rfl] at hP hD
  have hP : va_P D vwCl [(h0, .inr (9, [.ref q1, .null, .int 0, .int 0, .null, .null, .null, .int 0, .int 0, .int 0, .int 0, .int 0, .int 0, .int 0, .int 0, .int 0, .int 0, .int 0, .int 0, .long 0, .int 0, .int 0, .int 0])), (q1, .inl (k.1, 47, .inl tfP)), (q2, .inl (k.1, 47, .inl (pf tabO 44)))] H := hP
  have hD : va_D A [(h0, .inr (9, [.ref q1, .null, .int 0, .int 0, .null, .null, .null, .int 0, .int 0, .int 0, .int 0, .int 0, .int 0, .int 0, .int 0, .int 0, .int 0, .int 0, .int 0, .long 0, .int 0, .int 0, .int 0])), (q1, .inl (k.1, 47, .inl tfP)), (q2, .inl (k.1, 47, .inl (pf tabO 44)))] := hD
  refine lv_dup hx hb d_Mdl_init_589 rfl ?_
  refine lv_bipush (v := 44) hx hb d_Mdl_init_590 (by decide) ?_
  refine lv_bipush (v := 42) hx hb d_Mdl_init_592 (by decide) ?_
  refine va_iast hx hb hK hP hD hS 2 0 rfl rfl (by unfold vp_in; decide +kernel) d_Mdl_init_594 (fun H locs hP hD hS => ?_)
  have hP : va_P D vwCl [(h0, .inr (9, [.ref q1, .null, .int 0, .int 0, .null, .null, .null, .int 0, .int 0, .int 0, .int 0, .int 0, .int 0, .int 0, .int 0, .int 0, .int 0, .int 0, .int 0, .long 0, .int 0, .int 0, .int 0])), (q1, .inl (k.1, 47, .inl tfP)), (q2, .inl (k.1, 47, .inl (upd (pf tabO 44) (44 : Int32).toNatClampNeg 42)))] H := hP
  have hD : va_D A [(h0, .inr (9, [.ref q1, .null, .int 0, .int 0, .null, .null, .null, .int 0, .int 0, .int 0, .int 0, .int 0, .int 0, .int 0, .int 0, .int 0, .int 0, .int 0, .int 0, .long 0, .int 0, .int 0, .int 0])), (q1, .inl (k.1, 47, .inl tfP)), (q2, .inl (k.1, 47, .inl (upd (pf tabO 44) (44 : Int32).toNatClampNeg 42)))] := hD
  rw [pf_s (l := tabO) (j := 44) (v := 42) 44 rfl rfl] at hP hD
  have hP : va_P D vwCl [(h0, .inr (9, [.ref q1, .null, .int 0, .int 0, .null, .null, .null, .int 0, .int 0, .int 0, .int 0, .int 0, .int 0, .int 0, .int 0, .int 0, .int 0, .int 0, .int 0, .long 0, .int 0, .int 0, .int 0])), (q1, .inl (k.1, 47, .inl tfP)), (q2, .inl (k.1, 47, .inl (pf tabO 45)))] H := hP
  have hD : va_D A [(h0, .inr (9, [.ref q1, .null, .int 0, .int 0, .null, .null, .null, .int 0, .int 0, .int 0, .int 0, .int 0, .int 0, .int 0, .int 0, .int 0, .int 0, .int 0, .int 0, .long 0, .int 0, .int 0, .int 0])), (q1, .inl (k.1, 47, .inl tfP)), (q2, .inl (k.1, 47, .inl (pf tabO 45)))] := hD
  refine lv_dup hx hb d_Mdl_init_595 rfl ?_
  refine lv_bipush (v := 45) hx hb d_Mdl_init_596 (by decide) ?_
  refine lv_bipush (v := 43) hx hb d_Mdl_init_598 (by decide) ?_
  refine va_iast hx hb hK hP hD hS 2 0 rfl rfl (by unfold vp_in; decide +kernel) d_Mdl_init_600 (fun H locs hP hD hS => ?_)
  have hP : va_P D vwCl [(h0, .inr (9, [.ref q1, .null, .int 0, .int 0, .null, .null, .null, .int 0, .int 0, .int 0, .int 0, .int 0, .int 0, .int 0, .int 0, .int 0, .int 0, .int 0, .int 0, .long 0, .int 0, .int 0, .int 0])), (q1, .inl (k.1, 47, .inl tfP)), (q2, .inl (k.1, 47, .inl (upd (pf tabO 45) (45 : Int32).toNatClampNeg 43)))] H := hP
  have hD : va_D A [(h0, .inr (9, [.ref q1, .null, .int 0, .int 0, .null, .null, .null, .int 0, .int 0, .int 0, .int 0, .int 0, .int 0, .int 0, .int 0, .int 0, .int 0, .int 0, .int 0, .long 0, .int 0, .int 0, .int 0])), (q1, .inl (k.1, 47, .inl tfP)), (q2, .inl (k.1, 47, .inl (upd (pf tabO 45) (45 : Int32).toNatClampNeg 43)))] := hD
  rw [pf_s (l := tabO) (j := 45) (v := 43) 45 rfl rfl] at hP hD
  have hP : va_P D vwCl [(h0, .inr (9, [.ref q1, .null, .int 0, .int 0, .null, .null, .null, .int 0, .int 0, .int 0, .int 0, .int 0, .int 0, .int 0, .int 0, .int 0, .int 0, .int 0, .int 0, .long 0, .int 0, .int 0, .int 0])), (q1, .inl (k.1, 47, .inl tfP)), (q2, .inl (k.1, 47, .inl (pf tabO 46)))] H := hP
  have hD : va_D A [(h0, .inr (9, [.ref q1, .null, .int 0, .int 0, .null, .null, .null, .int 0, .int 0, .int 0, .int 0, .int 0, .int 0, .int 0, .int 0, .int 0, .int 0, .int 0, .int 0, .long 0, .int 0, .int 0, .int 0])), (q1, .inl (k.1, 47, .inl tfP)), (q2, .inl (k.1, 47, .inl (pf tabO 46)))] := hD
  refine lv_dup hx hb d_Mdl_init_601 rfl ?_
  refine lv_bipush (v := 46) hx hb d_Mdl_init_602 (by decide) ?_
  refine lv_bipush (v := 46) hx hb d_Mdl_init_604 (by decide) ?_
  refine va_iast hx hb hK hP hD hS 2 0 rfl rfl (by unfold vp_in; decide +kernel) d_Mdl_init_606 (fun H locs hP hD hS => ?_)
  have hP : va_P D vwCl [(h0, .inr (9, [.ref q1, .null, .int 0, .int 0, .null, .null, .null, .int 0, .int 0, .int 0, .int 0, .int 0, .int 0, .int 0, .int 0, .int 0, .int 0, .int 0, .int 0, .long 0, .int 0, .int 0, .int 0])), (q1, .inl (k.1, 47, .inl tfP)), (q2, .inl (k.1, 47, .inl (upd (pf tabO 46) (46 : Int32).toNatClampNeg 46)))] H := hP
  have hD : va_D A [(h0, .inr (9, [.ref q1, .null, .int 0, .int 0, .null, .null, .null, .int 0, .int 0, .int 0, .int 0, .int 0, .int 0, .int 0, .int 0, .int 0, .int 0, .int 0, .int 0, .long 0, .int 0, .int 0, .int 0])), (q1, .inl (k.1, 47, .inl tfP)), (q2, .inl (k.1, 47, .inl (upd (pf tabO 46) (46 : Int32).toNatClampNeg 46)))] := hD
  rw [pf_s (l := tabO) (j := 46) (v := 46) 46 rfl rfl] at hP hD
  rw [show pf tabO (46 + 1) = tfO from pf_O] at hP hD
  have hP : va_P D vwCl [(h0, .inr (9, [.ref q1, .null, .int 0, .int 0, .null, .null, .null, .int 0, .int 0, .int 0, .int 0, .int 0, .int 0, .int 0, .int 0, .int 0, .int 0, .int 0, .int 0, .long 0, .int 0, .int 0, .int 0])), (q1, .inl (k.1, 47, .inl tfP)), (q2, .inl (k.1, 47, .inl tfO))] H := hP
  have hD : va_D A [(h0, .inr (9, [.ref q1, .null, .int 0, .int 0, .null, .null, .null, .int 0, .int 0, .int 0, .int 0, .int 0, .int 0, .int 0, .int 0, .int 0, .int 0, .int 0, .int 0, .long 0, .int 0, .int 0, .int 0])), (q1, .inl (k.1, 47, .inl tfP)), (q2, .inl (k.1, 47, .inl tfO))] := hD
  refine va_putF (D := D) (ci := 9) (v := .ref q2) (ty := .array .int) (C := R_Mdl) (T := T_Mdl) (N := 23) hx hb hts inw_Mdl ty_Mdl tyok_Mdl nm_Mdl hown hK hP hD hS 0 rfl rfl 1 (by decide) (hts (.fieldLink R_Mdl 13 "LikelyBitsModel" "other" "[I") mw_354) (fun _ h9 => h9) rfl hin rfl (by decide +kernel) rfl rfl (Nat.le_of_ble_eq_true rfl) d_Mdl_init_607 (fun H locs hP hD hS => ?_)
  have hP : va_P D vwCl [(h0, .inr (9, [.ref q1, .ref q2, .int 0, .int 0, .null, .null, .null, .int 0, .int 0, .int 0, .int 0, .int 0, .int 0, .int 0, .int 0, .int 0, .int 0, .int 0, .int 0, .long 0, .int 0, .int 0, .int 0])), (q1, .inl (k.1, 47, .inl tfP)), (q2, .inl (k.1, 47, .inl tfO))] H := hP
  have hD : va_D A [(h0, .inr (9, [.ref q1, .ref q2, .int 0, .int 0, .null, .null, .null, .int 0, .int 0, .int 0, .int 0, .int 0, .int 0, .int 0, .int 0, .int 0, .int 0, .int 0, .int 0, .long 0, .int 0, .int 0, .int 0])), (q1, .inl (k.1, 47, .inl tfP)), (q2, .inl (k.1, 47, .inl tfO))] := hD
  refine lv_aload_n hx hb d_Mdl_init_610 rfl (lv_at hl 0 rfl) ?_
  refine lv_ldc (v := 65536) hx hb hown (hts (.constant R_Mdl 16 65536) mw_371) d_Mdl_init_611 ?_
  refine va_newa (atype := .int) (ty := .int) (N' := 65536) (a0 := (65536, .inl (fun _ => 0))) hx hb (hts (.arrayClass .int) mw_5) rfl hK hP hD hS hA (ha_int 65536) (by decide +kernel) (by decide +kernel) (by decide +kernel) (by first | omega | (dsimp only; omega)) (by first | omega | (dsimp only; omega)) d_Mdl_init_613 (fun q3 cA H hK1 hP hD hS => ?_)
  have ecA := newa_int hK1
  subst ecA
  have hP : va_P D vwCl [(h0, .inr (9, [.ref q1, .ref q2, .int 0, .int 0, .null, .null, .null, .int 0, .int 0, .int 0, .int 0, .int 0, .int 0, .int 0, .int 0, .int 0, .int 0, .int 0, .int 0, .long 0, .int 0, .int 0, .int 0])), (q1, .inl (k.1, 47, .inl tfP)), (q2, .inl (k.1, 47, .inl tfO)), (q3, .inl (k.1, 65536, .inl (fun _ => 0)))] H := hP
  have hD : va_D A [(h0, .inr (9, [.ref q1, .ref q2, .int 0, .int 0, .null, .null, .null, .int 0, .int 0, .int 0, .int 0, .int 0, .int 0, .int 0, .int 0, .int 0, .int 0, .int 0, .int 0, .long 0, .int 0, .int 0, .int 0])), (q1, .inl (k.1, 47, .inl tfP)), (q2, .inl (k.1, 47, .inl tfO)), (q3, .inl (k.1, 65536, .inl (fun _ => 0)))] := hD
  refine va_putF (D := D) (ci := 9) (v := .ref q3) (ty := .array .int) (C := R_Mdl) (T := T_Mdl) (N := 23) hx hb hts inw_Mdl ty_Mdl tyok_Mdl nm_Mdl hown hK hP hD hS 0 rfl rfl 4 (by decide) (hts (.fieldLink R_Mdl 17 "LikelyBitsModel" "bytes" "[I") mw_333) (fun _ h9 => h9) rfl hin rfl (by decide +kernel) rfl rfl (Nat.le_of_ble_eq_true rfl) d_Mdl_init_615 (fun H locs hP hD hS => ?_)
  have hP : va_P D vwCl [(h0, .inr (9, [.ref q1, .ref q2, .int 0, .int 0, .ref q3, .null, .null, .int 0, .int 0, .int 0, .int 0, .int 0, .int 0, .int 0, .int 0, .int 0, .int 0, .int 0, .int 0, .long 0, .int 0, .int 0, .int 0])), (q1, .inl (k.1, 47, .inl tfP)), (q2, .inl (k.1, 47, .inl tfO)), (q3, .inl (k.1, 65536, .inl (fun _ => 0)))] H := hP
  have hD : va_D A [(h0, .inr (9, [.ref q1, .ref q2, .int 0, .int 0, .ref q3, .null, .null, .int 0, .int 0, .int 0, .int 0, .int 0, .int 0, .int 0, .int 0, .int 0, .int 0, .int 0, .int 0, .long 0, .int 0, .int 0, .int 0])), (q1, .inl (k.1, 47, .inl tfP)), (q2, .inl (k.1, 47, .inl tfO)), (q3, .inl (k.1, 65536, .inl (fun _ => 0)))] := hD
  refine lv_aload_n hx hb d_Mdl_init_618 rfl (lv_at hl 0 rfl) ?_
  refine lv_bipush (v := 38) hx hb d_Mdl_init_619 (by decide) ?_
  refine va_newa (atype := .int) (ty := .int) (N' := 38) (a0 := (38, .inl (fun _ => 0))) hx hb (hts (.arrayClass .int) mw_5) rfl hK hP hD hS hA (ha_int 38) (by decide +kernel) (by decide +kernel) (by decide +kernel) (by first | omega | (dsimp only; omega)) (by first | omega | (dsimp only; omega)) d_Mdl_init_621 (fun q4 cA H hK1 hP hD hS => ?_)
  have ecA := newa_int hK1
  subst ecA
  have hP : va_P D vwCl [(h0, .inr (9, [.ref q1, .ref q2, .int 0, .int 0, .ref q3, .null, .null, .int 0, .int 0, .int 0, .int 0, .int 0, .int 0, .int 0, .int 0, .int 0, .int 0, .int 0, .int 0, .long 0, .int 0, .int 0, .int 0])), (q1, .inl (k.1, 47, .inl tfP)), (q2, .inl (k.1, 47, .inl tfO)), (q3, .inl (k.1, 65536, .inl (fun _ => 0))), (q4, .inl (k.1, 38, .inl (fun _ => 0)))] H := hP
  have hD : va_D A [(h0, .inr (9, [.ref q1, .ref q2, .int 0, .int 0, .ref q3, .null, .null, .int 0, .int 0, .int 0, .int 0, .int 0, .int 0, .int 0, .int 0, .int 0, .int 0, .int 0, .int 0, .long 0, .int 0, .int 0, .int 0])), (q1, .inl (k.1, 47, .inl tfP)), (q2, .inl (k.1, 47, .inl tfO)), (q3, .inl (k.1, 65536, .inl (fun _ => 0))), (q4, .inl (k.1, 38, .inl (fun _ => 0)))] := hD
  refine va_putF (D := D) (ci := 9) (v := .ref q4) (ty := .array .int) (C := R_Mdl) (T := T_Mdl) (N := 23) hx hb hts inw_Mdl ty_Mdl tyok_Mdl nm_Mdl hown hK hP hD hS 0 rfl rfl 5 (by decide) (hts (.fieldLink R_Mdl 20 "LikelyBitsModel" "states" "[I") mw_349) (fun _ h9 => h9) rfl hin rfl (by decide +kernel) rfl rfl (Nat.le_of_ble_eq_true rfl) d_Mdl_init_623 (fun H locs hP hD hS => ?_)
  have hP : va_P D vwCl [(h0, .inr (9, [.ref q1, .ref q2, .int 0, .int 0, .ref q3, .ref q4, .null, .int 0, .int 0, .int 0, .int 0, .int 0, .int 0, .int 0, .int 0, .int 0, .int 0, .int 0, .int 0, .long 0, .int 0, .int 0, .int 0])), (q1, .inl (k.1, 47, .inl tfP)), (q2, .inl (k.1, 47, .inl tfO)), (q3, .inl (k.1, 65536, .inl (fun _ => 0))), (q4, .inl (k.1, 38, .inl (fun _ => 0)))] H := hP
  have hD : va_D A [(h0, .inr (9, [.ref q1, .ref q2, .int 0, .int 0, .ref q3, .ref q4, .null, .int 0, .int 0, .int 0, .int 0, .int 0, .int 0, .int 0, .int 0, .int 0, .int 0, .int 0, .int 0, .long 0, .int 0, .int 0, .int 0])), (q1, .inl (k.1, 47, .inl tfP)), (q2, .inl (k.1, 47, .inl tfO)), (q3, .inl (k.1, 65536, .inl (fun _ => 0))), (q4, .inl (k.1, 38, .inl (fun _ => 0)))] := hD
  refine lv_aload_n hx hb d_Mdl_init_626 rfl (lv_at hl 0 rfl) ?_
  refine lv_bipush (v := 38) hx hb d_Mdl_init_627 (by decide) ?_
  refine va_newa (atype := .int) (ty := .int) (N' := 38) (a0 := (38, .inl (fun _ => 0))) hx hb (hts (.arrayClass .int) mw_5) rfl hK hP hD hS hA (ha_int 38) (by decide +kernel) (by decide +kernel) (by decide +kernel) (by first | omega | (dsimp only; omega)) (by first | omega | (dsimp only; omega)) d_Mdl_init_629 (fun q5 cA H hK1 hP hD hS => ?_)
  have ecA := newa_int hK1
  subst ecA
  have hP : va_P D vwCl [(h0, .inr (9, [.ref q1, .ref q2, .int 0, .int 0, .ref q3, .ref q4, .null, .int 0, .int 0, .int 0, .int 0, .int 0, .int 0, .int 0, .int 0, .int 0, .int 0, .int 0, .int 0, .long 0, .int 0, .int 0, .int 0])), (q1, .inl (k.1, 47, .inl tfP)), (q2, .inl (k.1, 47, .inl tfO)), (q3, .inl (k.1, 65536, .inl (fun _ => 0))), (q4, .inl (k.1, 38, .inl (fun _ => 0))), (q5, .inl (k.1, 38, .inl (fun _ => 0)))] H := hP
  have hD : va_D A [(h0, .inr (9, [.ref q1, .ref q2, .int 0, .int 0, .ref q3, .ref q4, .null, .int 0, .int 0, .int 0, .int 0, .int 0, .int 0, .int 0, .int 0, .int 0, .int 0, .int 0, .int 0, .long 0, .int 0, .int 0, .int 0])), (q1, .inl (k.1, 47, .inl tfP)), (q2, .inl (k.1, 47, .inl tfO)), (q3, .inl (k.1, 65536, .inl (fun _ => 0))), (q4, .inl (k.1, 38, .inl (fun _ => 0))), (q5, .inl (k.1, 38, .inl (fun _ => 0)))] := hD
  refine va_putF (D := D) (ci := 9) (v := .ref q5) (ty := .array .int) (C := R_Mdl) (T := T_Mdl) (N := 23) hx hb hts inw_Mdl ty_Mdl tyok_Mdl nm_Mdl hown hK hP hD hS 0 rfl rfl 6 (by decide) (hts (.fieldLink R_Mdl 23 "LikelyBitsModel" "likely" "[I") mw_353) (fun _ h9 => h9) rfl hin rfl (by decide +kernel) rfl rfl (Nat.le_of_ble_eq_true rfl) d_Mdl_init_631 (fun H locs hP hD hS => ?_)
  have hP : va_P D vwCl [(h0, .inr (9, [.ref q1, .ref q2, .int 0, .int 0, .ref q3, .ref q4, .ref q5, .int 0, .int 0, .int 0, .int 0, .int 0, .int 0, .int 0, .int 0, .int 0, .int 0, .int 0, .int 0, .long 0, .int 0, .int 0, .int 0])), (q1, .inl (k.1, 47, .inl tfP)), (q2, .inl (k.1, 47, .inl tfO)), (q3, .inl (k.1, 65536, .inl (fun _ => 0))), (q4, .inl (k.1, 38, .inl (fun _ => 0))), (q5, .inl (k.1, 38, .inl (fun _ => 0)))] H := hP
  have hD : va_D A [(h0, .inr (9, [.ref q1, .ref q2, .int 0, .int 0, .ref q3, .ref q4, .ref q5, .int 0, .int 0, .int 0, .int 0, .int 0, .int 0, .int 0, .int 0, .int 0, .int 0, .int 0, .int 0, .long 0, .int 0, .int 0, .int 0])), (q1, .inl (k.1, 47, .inl tfP)), (q2, .inl (k.1, 47, .inl tfO)), (q3, .inl (k.1, 65536, .inl (fun _ => 0))), (q4, .inl (k.1, 38, .inl (fun _ => 0))), (q5, .inl (k.1, 38, .inl (fun _ => 0)))] := hD
  exact krv (wo := wo_M_init k h0) hx hb hr hlk hP hD hS () (q1, q2, q3, q4, q5) trivial trivial [0, 1, 2, 3, 4, 5] rfl (by decide) (by first | omega | (dsimp only; omega)) (by first | omega | (dsimp only; omega)) d_Mdl_init_634

set_option maxRecDepth 20000 in
theorem mw_20 : (Cond.fieldLink R_Cxt 9 "LikelyBits$Contexts" "states" "[I") ∈ AW := inAW (List.mem_append_right _ (show _ ∈ tables_1_1 ++ (tables_1_2 ++ (tables_1_3 ++ tables_1_4)) from (List.mem_append_left _ (List.mem_of_getElem? (i := 49) rfl)))) rfl
set_option maxRecDepth 20000 in
theorem mw_21 : (Cond.methodLink R_Cxt 18 y_Cxt_entry) ∈ AW := inAW (List.mem_append_right _ (show _ ∈ tables_1_1 ++ (tables_1_2 ++ (tables_1_3 ++ tables_1_4)) from (List.mem_append_right _ (List.mem_append_left _ (List.mem_of_getElem? (i := 184) rfl))))) rfl
set_option maxRecDepth 20000 in
theorem mw_22 : (Cond.static y_Cxt_entry) ∈ AW := inAW (List.mem_append_right _ (show _ ∈ tables_1_1 ++ (tables_1_2 ++ (tables_1_3 ++ tables_1_4)) from (List.mem_append_right _ (List.mem_append_left _ (List.mem_of_getElem? (i := 185) rfl))))) rfl
set_option maxRecDepth 20000 in
theorem mw_23 : (Cond.initialized R_Cxt) ∈ AW := inAW (List.mem_append_right _ (show _ ∈ tables_1_1 ++ (tables_1_2 ++ (tables_1_3 ++ tables_1_4)) from (List.mem_append_left _ (List.mem_of_getElem? (i := 3) rfl)))) rfl
set_option maxRecDepth 20000 in
theorem mw_24 : (Cond.code y_Cxt_entry b_Cxt_entry 2 (some .int)) ∈ AW := inAW (List.mem_append_right _ (show _ ∈ tables_1_1 ++ (tables_1_2 ++ (tables_1_3 ++ tables_1_4)) from (List.mem_append_right _ (List.mem_append_left _ (List.mem_of_getElem? (i := 186) rfl))))) rfl
set_option maxRecDepth 20000 in
theorem mw_25 : (Cond.fieldLink R_Cxt 15 "LikelyBits$Contexts" "likelyBits" "[I") ∈ AW := inAW (List.mem_append_right _ (show _ ∈ tables_1_1 ++ (tables_1_2 ++ (tables_1_3 ++ tables_1_4)) from (List.mem_append_left _ (List.mem_of_getElem? (i := 50) rfl)))) rfl
set_option maxRecDepth 20000 in
theorem mw_26 : (Cond.methodLink R_Cxt 25 y_Cxt_stateOf) ∈ AW := inAW (List.mem_append_right _ (show _ ∈ tables_1_1 ++ (tables_1_2 ++ (tables_1_3 ++ tables_1_4)) from (List.mem_append_right _ (List.mem_append_right _ (List.mem_append_left _ (List.mem_of_getElem? (i := 23) rfl)))))) rfl
set_option maxRecDepth 20000 in
theorem mw_27 : (Cond.instanceMethod y_Cxt_stateOf) ∈ AW := inAW (List.mem_append_right _ (show _ ∈ tables_1_1 ++ (tables_1_2 ++ (tables_1_3 ++ tables_1_4)) from (List.mem_append_right _ (List.mem_append_left _ (List.mem_of_getElem? (i := 181) rfl))))) rfl
set_option maxRecDepth 20000 in
theorem mw_28 : (Cond.selects R_Cxt y_Cxt_stateOf y_Cxt_stateOf) ∈ AW := inAW (List.mem_append_right _ (show _ ∈ tables_1_1 ++ (tables_1_2 ++ (tables_1_3 ++ tables_1_4)) from (List.mem_append_right _ (List.mem_append_left _ (List.mem_of_getElem? (i := 182) rfl))))) rfl
set_option maxRecDepth 20000 in
theorem mw_29 : (Cond.code y_Cxt_stateOf b_Cxt_stateOf 2 (some .int)) ∈ AW := inAW (List.mem_append_right _ (show _ ∈ tables_1_1 ++ (tables_1_2 ++ (tables_1_3 ++ tables_1_4)) from (List.mem_append_right _ (List.mem_append_left _ (List.mem_of_getElem? (i := 183) rfl))))) rfl
set_option maxRecDepth 20000 in
theorem mw_30 : (Cond.methodLink R_Cxt 32 y_Cxt_likelyBitOf) ∈ AW := inAW (List.mem_append_right _ (show _ ∈ tables_1_1 ++ (tables_1_2 ++ (tables_1_3 ++ tables_1_4)) from (List.mem_append_right _ (List.mem_append_right _ (List.mem_append_left _ (List.mem_of_getElem? (i := 35) rfl)))))) rfl
set_option maxRecDepth 20000 in
theorem mw_31 : (Cond.instanceMethod y_Cxt_likelyBitOf) ∈ AW := inAW (List.mem_append_right _ (show _ ∈ tables_1_1 ++ (tables_1_2 ++ (tables_1_3 ++ tables_1_4)) from (List.mem_append_right _ (List.mem_append_left _ (List.mem_of_getElem? (i := 188) rfl))))) rfl
set_option maxRecDepth 20000 in
theorem mw_32 : (Cond.selects R_Cxt y_Cxt_likelyBitOf y_Cxt_likelyBitOf) ∈ AW := inAW (List.mem_append_right _ (show _ ∈ tables_1_1 ++ (tables_1_2 ++ (tables_1_3 ++ tables_1_4)) from (List.mem_append_right _ (List.mem_append_left _ (List.mem_of_getElem? (i := 189) rfl))))) rfl
set_option maxRecDepth 20000 in
theorem mw_33 : (Cond.code y_Cxt_likelyBitOf b_Cxt_likelyBitOf 2 (some .int)) ∈ AW := inAW (List.mem_append_right _ (show _ ∈ tables_1_1 ++ (tables_1_2 ++ (tables_1_3 ++ tables_1_4)) from (List.mem_append_right _ (List.mem_append_left _ (List.mem_of_getElem? (i := 190) rfl))))) rfl
set_option maxRecDepth 20000 in
theorem mw_34 : (Cond.methodLink R_Cxt 35 y_Cxt_set) ∈ AW := inAW (List.mem_append_right _ (show _ ∈ tables_1_1 ++ (tables_1_2 ++ (tables_1_3 ++ tables_1_4)) from (List.mem_append_right _ (List.mem_append_right _ (List.mem_append_left _ (List.mem_of_getElem? (i := 36) rfl)))))) rfl
set_option maxRecDepth 20000 in
theorem mw_35 : (Cond.instanceMethod y_Cxt_set) ∈ AW := inAW (List.mem_append_right _ (show _ ∈ tables_1_1 ++ (tables_1_2 ++ (tables_1_3 ++ tables_1_4)) from (List.mem_append_right _ (List.mem_append_left _ (List.mem_of_getElem? (i := 170) rfl))))) rfl
set_option maxRecDepth 20000 in
theorem mw_36 : (Cond.selects R_Cxt y_Cxt_set y_Cxt_set) ∈ AW := inAW (List.mem_append_right _ (show _ ∈ tables_1_1 ++ (tables_1_2 ++ (tables_1_3 ++ tables_1_4)) from (List.mem_append_right _ (List.mem_append_left _ (List.mem_of_getElem? (i := 171) rfl))))) rfl
set_option maxRecDepth 20000 in
theorem mw_37 : (Cond.code y_Cxt_set b_Cxt_set 4 none) ∈ AW := inAW (List.mem_append_right _ (show _ ∈ tables_1_1 ++ (tables_1_2 ++ (tables_1_3 ++ tables_1_4)) from (List.mem_append_right _ (List.mem_append_left _ (List.mem_of_getElem? (i := 172) rfl))))) rfl
set_option maxRecDepth 20000 in
theorem mw_38 : (Cond.methodLink R_Cxt 39 y_Cxt_turns) ∈ AW := inAW (List.mem_append_right _ (show _ ∈ tables_1_1 ++ (tables_1_2 ++ (tables_1_3 ++ tables_1_4)) from (List.mem_append_right _ (List.mem_append_right _ (List.mem_append_left _ (List.mem_of_getElem? (i := 45) rfl)))))) rfl
set_option maxRecDepth 20000 in
theorem mw_39 : (Cond.static y_Cxt_turns) ∈ AW := inAW (List.mem_append_right _ (show _ ∈ tables_1_1 ++ (tables_1_2 ++ (tables_1_3 ++ tables_1_4)) from (List.mem_append_right _ (List.mem_append_right _ (List.mem_append_left _ (List.mem_of_getElem? (i := 46) rfl)))))) rfl
set_option maxRecDepth 20000 in
theorem mw_40 : (Cond.code y_Cxt_turns b_Cxt_turns 1 (some .boolean)) ∈ AW := inAW (List.mem_append_right _ (show _ ∈ tables_1_1 ++ (tables_1_2 ++ (tables_1_3 ++ tables_1_4)) from (List.mem_append_right _ (List.mem_append_right _ (List.mem_append_left _ (List.mem_of_getElem? (i := 47) rfl)))))) rfl
set_option maxRecDepth 20000 in
theorem mw_41 : (Cond.methodLink R_Cxt 3 objectInit) ∈ AW := inAW (List.mem_append_right _ (show _ ∈ tables_1_1 ++ (tables_1_2 ++ (tables_1_3 ++ tables_1_4)) from (List.mem_append_left _ (List.mem_of_getElem? (i := 48) rfl)))) rfl
set_option maxRecDepth 20000 in
theorem nw_0 : (Cond.fieldLinkNest R_Cxt 22 "LikelyBits" "PARTS" "[I" "LikelyBits") ∈ NW := inNW (List.mem_append_right _ (show _ ∈ tables_1_1 ++ (tables_1_2 ++ (tables_1_3 ++ tables_1_4)) from (List.mem_append_right _ (List.mem_append_right _ (List.mem_append_left _ (List.mem_of_getElem? (i := 21) rfl)))))) rfl
set_option maxRecDepth 20000 in
theorem nw_1 : (Cond.fieldLinkNest R_Cxt 29 "LikelyBits" "NEXT_STATES" "[I" "LikelyBits") ∈ NW := inNW (List.mem_append_right _ (show _ ∈ tables_1_1 ++ (tables_1_2 ++ (tables_1_3 ++ tables_1_4)) from (List.mem_append_right _ (List.mem_append_right _ (List.mem_append_left _ (List.mem_of_getElem? (i := 33) rfl)))))) rfl
set_option maxRecDepth 20000 in
theorem nw_2 : (Cond.fieldLinkNest R_Cxt 43 "LikelyBits" "OTHER_STATES" "[I" "LikelyBits") ∈ NW := inNW (List.mem_append_right _ (show _ ∈ tables_1_1 ++ (tables_1_2 ++ (tables_1_3 ++ tables_1_4)) from (List.mem_append_right _ (List.mem_append_right _ (List.mem_append_left _ (List.mem_of_getElem? (i := 48) rfl)))))) rfl
set_option maxHeartbeats 1000000 in
set_option maxRecDepth 100000 in
theorem c_Cxt_entry (l : Launch) (hl9 : l.stackTraces = false) (D : va_G) (k : gK) (h1 : Nat) (f : Nat → Int32) (x : Int32) : Met l y_Cxt_entry (.code y_Cxt_entry b_Cxt_entry 2 (some .int) :: AW) { frames := 0, cells := 0, slots := 0, locals := 0 } (va_Pc [.ref h1, .int x] (GR D k [(h1, .inl (k.1, 19, .inl f))])) (va_Qi (fun r (_ : Unit) => r = ent 19 f x) (fun _ _ => True) (fun _ => False)) 0 0 (fun _ => False) := by
  refine kMetR (ws := [(h1, .inl (k.1, 19, .inl f))]) (by decide) (Nat.le_of_ble_eq_true rfl) (fun p e s m below meth c ls H Cc hP hS hl => ?_)
  obtain ⟨hx, hb, hml, hr, hlk, hown, hts, hK, hE, hin⟩ := Cc
  have hl : lv_has ls 2 [(0, .ref h1), (1, .int x)] := hl
  refine lv_iload_n hx hb d_Cxt_entry_0 rfl (lv_at hl 1 rfl) ?_
  refine lv_if_lt (tgt := 16) hx hb d_Cxt_entry_1 (by decide) (fun c1 => ?_) (fun c1 => ?_)
  · refine lv_iconst (v := 0) hx hb d_Cxt_entry_16 (by decide) ?_
    exact koi hx hb hr hlk hS (by simp [ent, nI_19, c1]) (Nat.le_of_ble_eq_true rfl) (Nat.le_of_ble_eq_true rfl) d_Cxt_entry_17
  · refine lv_iload_n hx hb d_Cxt_entry_4 rfl (lv_at hl 1 rfl) ?_
    refine lv_aload_n hx hb d_Cxt_entry_5 rfl (lv_at hl 0 rfl) ?_
    refine va_alen (v := 19) hx hb hK hP 0 0 rfl rfl rfl d_Cxt_entry_6 ?_
    refine lv_icmp_ge (tgt := 16) hx hb d_Cxt_entry_7 (by decide) (fun c2 => ?_) (fun c2 => ?_)
    · refine lv_iconst (v := 0) hx hb d_Cxt_entry_16 (by decide) ?_
      exact koi hx hb hr hlk hS (by simp [ent, nI_19, c1, c2]) (Nat.le_of_ble_eq_true rfl) (Nat.le_of_ble_eq_true rfl) d_Cxt_entry_17
    · refine lv_aload_n hx hb d_Cxt_entry_10 rfl (lv_at hl 0 rfl) ?_
      refine lv_iload_n hx hb d_Cxt_entry_11 rfl (lv_at hl 1 rfl) ?_
      refine va_iald hx hb hK hP 0 0 rfl rfl (ix_in (by decide) c1 c2) d_Cxt_entry_12 ?_
      refine lv_goto (tgt := 17) hx hb d_Cxt_entry_13 (by decide) ?_
      exact koi hx hb hr hlk hS (by simp [ent, nI_19, c1, c2]) (Nat.le_of_ble_eq_true rfl) (Nat.le_of_ble_eq_true rfl) d_Cxt_entry_17

set_option maxHeartbeats 1000000 in
set_option maxRecDepth 100000 in
theorem c_Cxt_entryP (l : Launch) (hl9 : l.stackTraces = false) (D : va_G) (k : gK) (x : Int32) : Met l y_Cxt_entry (.code y_Cxt_entry b_Cxt_entry 2 (some .int) :: AW) { frames := 0, cells := 0, slots := 0, locals := 0 } (va_Pc [.ref k.2.2.1, .int x] (GR D k [])) (va_Qi (fun r (_ : Unit) => r = ent 47 tfP x) (fun _ _ => True) (fun _ => False)) 0 0 (fun _ => False) := by
  refine kMetR (ws := []) (by decide) (Nat.le_of_ble_eq_true rfl) (fun p e s m below meth c ls H Cc hP hS hl => ?_)
  obtain ⟨hx, hb, hml, hr, hlk, hown, hts, hK, hE, hin⟩ := Cc
  have hl : lv_has ls 2 [(0, .ref k.2.2.1), (1, .int x)] := hl
  refine lv_iload_n hx hb d_Cxt_entry_0 rfl (lv_at hl 1 rfl) ?_
  refine lv_if_lt (tgt := 16) hx hb d_Cxt_entry_1 (by decide) (fun c1 => ?_) (fun c1 => ?_)
  · refine lv_iconst (v := 0) hx hb d_Cxt_entry_16 (by decide) ?_
    exact koi hx hb hr hlk hS (by simp [ent, nI_47, tfP, c1]) (Nat.le_of_ble_eq_true rfl) (Nat.le_of_ble_eq_true rfl) d_Cxt_entry_17
  · refine lv_iload_n hx hb d_Cxt_entry_4 rfl (lv_at hl 1 rfl) ?_
    refine lv_aload_n hx hb d_Cxt_entry_5 rfl (lv_at hl 0 rfl) ?_
    refine va_tlen (v := 47) hx hb hE.tP hS rfl d_Cxt_entry_6 ?_
    refine lv_icmp_ge (tgt := 16) hx hb d_Cxt_entry_7 (by decide) (fun c2 => ?_) (fun c2 => ?_)
    · refine lv_iconst (v := 0) hx hb d_Cxt_entry_16 (by decide) ?_
      exact koi hx hb hr hlk hS (by simp [ent, nI_47, tfP, c1, c2]) (Nat.le_of_ble_eq_true rfl) (Nat.le_of_ble_eq_true rfl) d_Cxt_entry_17
    · refine lv_aload_n hx hb d_Cxt_entry_10 rfl (lv_at hl 0 rfl) ?_
      refine lv_iload_n hx hb d_Cxt_entry_11 rfl (lv_at hl 1 rfl) ?_
      refine va_ti hx hb hE.tP hS (ix_in (n := 47) (by decide) c1 c2) rfl d_Cxt_entry_12 ?_
      refine lv_goto (tgt := 17) hx hb d_Cxt_entry_13 (by decide) ?_
      exact koi hx hb hr hlk hS (by simp [ent, nI_47, tfP, c1, c2]) (Nat.le_of_ble_eq_true rfl) (Nat.le_of_ble_eq_true rfl) d_Cxt_entry_17

set_option maxHeartbeats 1000000 in
set_option maxRecDepth 100000 in
theorem c_Cxt_entryN (l : Launch) (hl9 : l.stackTraces = false) (D : va_G) (k : gK) (x : Int32) : Met l y_Cxt_entry (.code y_Cxt_entry b_Cxt_entry 2 (some .int) :: AW) { frames := 0, cells := 0, slots := 0, locals := 0 } (va_Pc [.ref k.2.2.2.1, .int x] (GR D k [])) (va_Qi (fun r (_ : Unit) => r = ent 47 tfN x) (fun _ _ => True) (fun _ => False)) 0 0 (fun _ => False) := by
  refine kMetR (ws := []) (by decide) (Nat.le_of_ble_eq_true rfl) (fun p e s m below meth c ls H Cc hP hS hl => ?_)
  obtain ⟨hx, hb, hml, hr, hlk, hown, hts, hK, hE, hin⟩ := Cc
  have hl : lv_has ls 2 [(0, .ref k.2.2.2.1), (1, .int x)] := hl
  refine lv_iload_n hx hb d_Cxt_entry_0 rfl (lv_at hl 1 rfl) ?_
  refine lv_if_lt (tgt := 16) hx hb d_Cxt_entry_1 (by decide) (fun c1 => ?_) (fun c1 => ?_)
  · refine lv_iconst (v := 0) hx hb d_Cxt_entry_16 (by decide) ?_
    exact koi hx hb hr hlk hS (by simp [ent, nI_47, tfN, c1]) (Nat.le_of_ble_eq_true rfl) (Nat.le_of_ble_eq_true rfl) d_Cxt_entry_17
  · refine lv_iload_n hx hb d_Cxt_entry_4 rfl (lv_at hl 1 rfl) ?_
    refine lv_aload_n hx hb d_Cxt_entry_5 rfl (lv_at hl 0 rfl) ?_
    refine va_tlen (v := 47) hx hb hE.tN hS rfl d_Cxt_entry_6 ?_
    refine lv_icmp_ge (tgt := 16) hx hb d_Cxt_entry_7 (by decide) (fun c2 => ?_) (fun c2 => ?_)
    · refine lv_iconst (v := 0) hx hb d_Cxt_entry_16 (by decide) ?_
      exact koi hx hb hr hlk hS (by simp [ent, nI_47, tfN, c1, c2]) (Nat.le_of_ble_eq_true rfl) (Nat.le_of_ble_eq_true rfl) d_Cxt_entry_17
    · refine lv_aload_n hx hb d_Cxt_entry_10 rfl (lv_at hl 0 rfl) ?_
      refine lv_iload_n hx hb d_Cxt_entry_11 rfl (lv_at hl 1 rfl) ?_
      refine va_ti hx hb hE.tN hS (ix_in (n := 47) (by decide) c1 c2) rfl d_Cxt_entry_12 ?_
      refine lv_goto (tgt := 17) hx hb d_Cxt_entry_13 (by decide) ?_
      exact koi hx hb hr hlk hS (by simp [ent, nI_47, tfN, c1, c2]) (Nat.le_of_ble_eq_true rfl) (Nat.le_of_ble_eq_true rfl) d_Cxt_entry_17

set_option maxHeartbeats 1000000 in
set_option maxRecDepth 100000 in
theorem c_Cxt_entryO (l : Launch) (hl9 : l.stackTraces = false) (D : va_G) (k : gK) (x : Int32) : Met l y_Cxt_entry (.code y_Cxt_entry b_Cxt_entry 2 (some .int) :: AW) { frames := 0, cells := 0, slots := 0, locals := 0 } (va_Pc [.ref k.2.2.2.2.1, .int x] (GR D k [])) (va_Qi (fun r (_ : Unit) => r = ent 47 tfO x) (fun _ _ => True) (fun _ => False)) 0 0 (fun _ => False) := by
  refine kMetR (ws := []) (by decide) (Nat.le_of_ble_eq_true rfl) (fun p e s m below meth c ls H Cc hP hS hl => ?_)
  obtain ⟨hx, hb, hml, hr, hlk, hown, hts, hK, hE, hin⟩ := Cc
  have hl : lv_has ls 2 [(0, .ref k.2.2.2.2.1), (1, .int x)] := hl
  refine lv_iload_n hx hb d_Cxt_entry_0 rfl (lv_at hl 1 rfl) ?_
  refine lv_if_lt (tgt := 16) hx hb d_Cxt_entry_1 (by decide) (fun c1 => ?_) (fun c1 => ?_)
  · refine lv_iconst (v := 0) hx hb d_Cxt_entry_16 (by decide) ?_
    exact koi hx hb hr hlk hS (by simp [ent, nI_47, tfO, c1]) (Nat.le_of_ble_eq_true rfl) (Nat.le_of_ble_eq_true rfl) d_Cxt_entry_17
  · refine lv_iload_n hx hb d_Cxt_entry_4 rfl (lv_at hl 1 rfl) ?_
    refine lv_aload_n hx hb d_Cxt_entry_5 rfl (lv_at hl 0 rfl) ?_
    refine va_tlen (v := 47) hx hb hE.tO hS rfl d_Cxt_entry_6 ?_
    refine lv_icmp_ge (tgt := 16) hx hb d_Cxt_entry_7 (by decide) (fun c2 => ?_) (fun c2 => ?_)
    · refine lv_iconst (v := 0) hx hb d_Cxt_entry_16 (by decide) ?_
      exact koi hx hb hr hlk hS (by simp [ent, nI_47, tfO, c1, c2]) (Nat.le_of_ble_eq_true rfl) (Nat.le_of_ble_eq_true rfl) d_Cxt_entry_17
    · refine lv_aload_n hx hb d_Cxt_entry_10 rfl (lv_at hl 0 rfl) ?_
      refine lv_iload_n hx hb d_Cxt_entry_11 rfl (lv_at hl 1 rfl) ?_
      refine va_ti hx hb hE.tO hS (ix_in (n := 47) (by decide) c1 c2) rfl d_Cxt_entry_12 ?_
      refine lv_goto (tgt := 17) hx hb d_Cxt_entry_13 (by decide) ?_
      exact koi hx hb hr hlk hS (by simp [ent, nI_47, tfO, c1, c2]) (Nat.le_of_ble_eq_true rfl) (Nat.le_of_ble_eq_true rfl) d_Cxt_entry_17

set_option maxHeartbeats 1000000 in
set_option maxRecDepth 100000 in
theorem c_Cxt_stateOf (l : Launch) (hl9 : l.stackTraces = false) (D : va_G) (k : gK) (h0 h1 h2 : Nat) (sf : Nat → Int32) (lf : Nat → Int32) (x : Int32) : Met l y_Cxt_stateOf (.code y_Cxt_stateOf b_Cxt_stateOf 2 (some .int) :: AW) { frames := 1, cells := 0, slots := 0, locals := 21 } (va_Pc [.ref h0, .int x] (GR D k [(h0, .inr (1, [.ref h1, .ref h2])), (h1, .inl (k.1, 19, .inl sf)), (h2, .inl (k.1, 19, .inl lf))])) (va_Qi (fun r (_ : Unit) => r = ent 19 sf x) (fun _ _ => True) (fun _ => False)) 0 0 (fun _ => False) := by
  refine kMetR (ws := [(h0, .inr (1, [.ref h1, .ref h2])), (h1, .inl (k.1, 19, .inl sf)), (h2, .inl (k.1, 19, .inl lf))]) (by decide) (Nat.le_of_ble_eq_true rfl) (fun p e s m below meth c ls H Cc hP hS hl => ?_)
  obtain ⟨hx, hb, hml, hr, hlk, hown, hts, hK, hE, hin⟩ := Cc
  have hl : lv_has ls 2 [(0, .ref h0), (1, .int x)] := hl
  refine lv_aload_n hx hb d_Cxt_stateOf_0 rfl (lv_at hl 0 rfl) ?_
  refine va_get (D := D) (ci := 1) (v := .ref h1) (C := R_Cxt) (T := T_Cxt) (N := 2) hx hb hts inw_Cxt hown hK hP 0 rfl rfl 0 (by decide) (hts (.fieldLink R_Cxt 9 "LikelyBits$Contexts" "states" "[I") mw_20) (fun _ h9 => h9) rfl d_Cxt_stateOf_1 ?_
  refine lv_iload_n hx hb d_Cxt_stateOf_4 rfl (lv_at hl 1 rfl) ?_
  refine kqi (va_runS (As := [.ref h1, .int x]) (rest := []) ⟨hx, hb, hml, hown, hts⟩ (c_Cxt_entry l hl9 D k h1 sf x ) (cwS 2 hts (gS mw_21 mw_22 mw_23 mw_24) rfl rfl rfl (by decide +kernel) ⟨(Nat.le_of_ble_eq_true rfl), (Nat.le_of_ble_eq_true rfl)⟩) (kPreR (wc := [(h1, .inl (k.1, 19, .inl sf))]) hE hK hP hS [1] rfl) rfl rfl hl.1 rfl (lv_room (Nat.le_of_ble_eq_true rfl)) d_Cxt_stateOf_5 ⟨(Nat.le_of_ble_eq_true rfl), (Nat.le_of_ble_eq_true rfl)⟩) hP hS (fun r1 H locs hw hP hS => ?_)
  replace hw := hw.symm
  subst hw
  exact koi hx hb hr hlk hS rfl (Nat.le_of_ble_eq_true rfl) (Nat.le_of_ble_eq_true rfl) d_Cxt_stateOf_8

set_option maxHeartbeats 1000000 in
set_option maxRecDepth 100000 in
theorem c_Cxt_likelyBitOf (l : Launch) (hl9 : l.stackTraces = false) (D : va_G) (k : gK) (h0 h1 h2 : Nat) (sf : Nat → Int32) (lf : Nat → Int32) (x : Int32) : Met l y_Cxt_likelyBitOf (.code y_Cxt_likelyBitOf b_Cxt_likelyBitOf 2 (some .int) :: AW) { frames := 1, cells := 0, slots := 0, locals := 21 } (va_Pc [.ref h0, .int x] (GR D k [(h0, .inr (1, [.ref h1, .ref h2])), (h1, .inl (k.1, 19, .inl sf)), (h2, .inl (k.1, 19, .inl lf))])) (va_Qi (fun r (_ : Unit) => r = ent 19 lf x) (fun _ _ => True) (fun _ => False)) 0 0 (fun _ => False) := by
  refine kMetR (ws := [(h0, .inr (1, [.ref h1, .ref h2])), (h1, .inl (k.1, 19, .inl sf)), (h2, .inl (k.1, 19, .inl lf))]) (by decide) (Nat.le_of_ble_eq_true rfl) (fun p e s m below meth c ls H Cc hP hS hl => ?_)
  obtain ⟨hx, hb, hml, hr, hlk, hown, hts, hK, hE, hin⟩ := Cc
  have hl : lv_has ls 2 [(0, .ref h0), (1, .int x)] := hl
  refine lv_aload_n hx hb d_Cxt_likelyBitOf_0 rfl (lv_at hl 0 rfl) ?_
  refine va_get (D := D) (ci := 1) (v := .ref h2) (C := R_Cxt) (T := T_Cxt) (N := 2) hx hb hts inw_Cxt hown hK hP 0 rfl rfl 1 (by decide) (hts (.fieldLink R_Cxt 15 "LikelyBits$Contexts" "likelyBits" "[I") mw_25) (fun _ h9 => h9) rfl d_Cxt_likelyBitOf_1 ?_
  refine lv_iload_n hx hb d_Cxt_likelyBitOf_4 rfl (lv_at hl 1 rfl) ?_
  refine kqi (va_runS (As := [.ref h2, .int x]) (rest := []) ⟨hx, hb, hml, hown, hts⟩ (c_Cxt_entry l hl9 D k h2 lf x ) (cwS 2 hts (gS mw_21 mw_22 mw_23 mw_24) rfl rfl rfl (by decide +kernel) ⟨(Nat.le_of_ble_eq_true rfl), (Nat.le_of_ble_eq_true rfl)⟩) (kPreR (wc := [(h2, .inl (k.1, 19, .inl lf))]) hE hK hP hS [2] rfl) rfl rfl hl.1 rfl (lv_room (Nat.le_of_ble_eq_true rfl)) d_Cxt_likelyBitOf_5 ⟨(Nat.le_of_ble_eq_true rfl), (Nat.le_of_ble_eq_true rfl)⟩) hP hS (fun r1 H locs hw hP hS => ?_)
  replace hw := hw.symm
  subst hw
  exact koi hx hb hr hlk hS rfl (Nat.le_of_ble_eq_true rfl) (Nat.le_of_ble_eq_true rfl) d_Cxt_likelyBitOf_8

set_option maxHeartbeats 1000000 in
set_option maxRecDepth 100000 in
theorem c_Cxt_partOf (l : Launch) (hl9 : l.stackTraces = false) (D : va_G) (k : gK) (h0 h1 h2 : Nat) (sf : Nat → Int32) (lf : Nat → Int32) (x : Int32) : Met l y_Cxt_partOf (.code y_Cxt_partOf b_Cxt_partOf 2 (some .int) :: AW) { frames := 2, cells := 0, slots := 0, locals := 42 } (va_Pc [.ref h0, .int x] (GR D k [(h0, .inr (1, [.ref h1, .ref h2])), (h1, .inl (k.1, 19, .inl sf)), (h2, .inl (k.1, 19, .inl lf))])) (va_Qi (fun r (_ : Unit) => r = prt sf x) (fun _ _ => True) (fun _ => False)) 0 0 (fun _ => False) := by
  refine kMetR (ws := [(h0, .inr (1, [.ref h1, .ref h2])), (h1, .inl (k.1, 19, .inl sf)), (h2, .inl (k.1, 19, .inl lf))]) (by decide) (Nat.le_of_ble_eq_true rfl) (fun p e s m below meth c ls H Cc hP hS hl => ?_)
  obtain ⟨hx, hb, hml, hr, hlk, hown, hts, hK, hE, hin⟩ := Cc
  have hl : lv_has ls 2 [(0, .ref h0), (1, .int x)] := hl
  refine va_getsN hx hb hE.zP hS hown (hE.nest (.fieldLinkNest R_Cxt 22 "LikelyBits" "PARTS" "[I" "LikelyBits") nw_0) (fun _ h9 => h9) d_Cxt_partOf_0 ?_
  refine lv_aload_n hx hb d_Cxt_partOf_3 rfl (lv_at hl 0 rfl) ?_
  refine lv_iload_n hx hb d_Cxt_partOf_4 rfl (lv_at hl 1 rfl) ?_
  refine kqi (va_runV (As := [.int x]) (rest := [.ref k.2.2.1]) ⟨hx, hb, hml, hown, hts⟩ (c_Cxt_stateOf l hl9 D k h0 h1 h2 sf lf x ) (cwV 1 hts (gV mw_26 mw_27 mw_28 mw_23 mw_29) rfl rfl rfl (by decide +kernel) ⟨(Nat.le_of_ble_eq_true rfl), (Nat.le_of_ble_eq_true rfl)⟩) (kRecv (q := (R_Cxt, T_Cxt, 2)) (q0 := 0) (ci := 1) hK hP rfl rfl (kPreR (wc := [(h0, .inr (1, [.ref h1, .ref h2])), (h1, .inl (k.1, 19, .inl sf)), (h2, .inl (k.1, 19, .inl lf))]) hE hK hP hS [0, 1, 2] rfl)) rfl rfl hl.1 rfl (lv_room (Nat.le_of_ble_eq_true rfl)) d_Cxt_partOf_5 ⟨(Nat.le_of_ble_eq_true rfl), (Nat.le_of_ble_eq_true rfl)⟩) hP hS (fun r1 H locs hw hP hS => ?_)
  replace hw := hw.symm
  subst hw
  refine kqi (va_runS (As := [.ref k.2.2.1, .int (ent 19 sf x)]) (rest := []) ⟨hx, hb, hml, hown, hts⟩ (c_Cxt_entryP l hl9 D k  (ent 19 sf x) ) (cwS 2 hts (gS mw_21 mw_22 mw_23 mw_24) rfl rfl rfl (by decide +kernel) ⟨(Nat.le_of_ble_eq_true rfl), (Nat.le_of_ble_eq_true rfl)⟩) (kPreR (wc := []) hE hK hP hS [] rfl) rfl rfl hl.1 rfl (lv_room (Nat.le_of_ble_eq_true rfl)) d_Cxt_partOf_8 ⟨(Nat.le_of_ble_eq_true rfl), (Nat.le_of_ble_eq_true rfl)⟩) hP hS (fun r2 H locs hw hP hS => ?_)
  replace hw := hw.symm
  subst hw
  exact koi hx hb hr hlk hS rfl (Nat.le_of_ble_eq_true rfl) (Nat.le_of_ble_eq_true rfl) d_Cxt_partOf_11

set_option maxHeartbeats 1000000 in
set_option maxRecDepth 100000 in
theorem c_Cxt_turns (l : Launch) (hl9 : l.stackTraces = false) (D : va_G) (k : gK) (x : Int32) : Met l y_Cxt_turns (.code y_Cxt_turns b_Cxt_turns 1 (some .boolean) :: AW) { frames := 0, cells := 0, slots := 0, locals := 0 } (va_Pc [.int x] (GR D k [])) (va_Qi (fun r (_ : Unit) => r = trn x) (fun _ _ => True) (fun _ => False)) 0 0 (fun _ => False) := by
  refine kMetR (ws := []) (by decide) (Nat.le_of_ble_eq_true rfl) (fun p e s m below meth c ls H Cc hP hS hl => ?_)
  obtain ⟨hx, hb, hml, hr, hlk, hown, hts, hK, hE, hin⟩ := Cc
  have hl : lv_has ls 1 [(0, .int x)] := hl
  refine lv_iload_n hx hb d_Cxt_turns_0 rfl (lv_at hl 0 rfl) ?_
  refine lv_if_eq (tgt := 16) hx hb d_Cxt_turns_1 (by decide) (fun c1 => ?_) (fun c1 => ?_)
  · refine lv_iconst (v := 1) hx hb d_Cxt_turns_16 (by decide) ?_
    refine lv_goto (tgt := 21) hx hb d_Cxt_turns_17 (by decide) ?_
    exact koz hx hb hr hlk hS (Or.inr rfl) (by simp [trn, c1]) (Nat.le_of_ble_eq_true rfl) (Nat.le_of_ble_eq_true rfl) d_Cxt_turns_21
  · refine lv_iload_n hx hb d_Cxt_turns_4 rfl (lv_at hl 0 rfl) ?_
    refine lv_bipush (v := 6) hx hb d_Cxt_turns_5 (by decide) ?_
    refine lv_icmp_eq (tgt := 16) hx hb d_Cxt_turns_7 (by decide) (fun c2 => ?_) (fun c2 => ?_)
    · refine lv_iconst (v := 1) hx hb d_Cxt_turns_16 (by decide) ?_
      refine lv_goto (tgt := 21) hx hb d_Cxt_turns_17 (by decide) ?_
      exact koz hx hb hr hlk hS (Or.inr rfl) (by simp [trn, c1, c2]) (Nat.le_of_ble_eq_true rfl) (Nat.le_of_ble_eq_true rfl) d_Cxt_turns_21
    · refine lv_iload_n hx hb d_Cxt_turns_10 rfl (lv_at hl 0 rfl) ?_
      refine lv_bipush (v := 14) hx hb d_Cxt_turns_11 (by decide) ?_
      refine lv_icmp_ne (tgt := 20) hx hb d_Cxt_turns_13 (by decide) (fun c3 => ?_) (fun c3 => ?_)
      · refine lv_iconst (v := 0) hx hb d_Cxt_turns_20 (by decide) ?_
        exact koz hx hb hr hlk hS (Or.inl rfl) (by simp [trn, c1, c2, c3]) (Nat.le_of_ble_eq_true rfl) (Nat.le_of_ble_eq_true rfl) d_Cxt_turns_21
      · refine lv_iconst (v := 1) hx hb d_Cxt_turns_16 (by decide) ?_
        refine lv_goto (tgt := 21) hx hb d_Cxt_turns_17 (by decide) ?_
        exact koz hx hb hr hlk hS (Or.inr rfl) (by simp [trn, c1, c2, c3]) (Nat.le_of_ble_eq_true rfl) (Nat.le_of_ble_eq_true rfl) d_Cxt_turns_21

def wo_Cxt_set (k : gK) (h0 h1 h2 : Nat) (sf : Nat → Int32) (lf : Nat → Int32) (x : Int32) (y : Int32) (z : Int32) (zz : Unit) (uu : (Nat → Int32) × (Nat → Int32)) : va_W := match zz, uu with
  | _, (sf2, lf2) => [(h0, .inr (1, [.ref h1, .ref h2])), (h1, .inl (k.1, 19, .inl sf2)), (h2, .inl (k.1, 19, .inl lf2))]
def ex_Cxt_set (k : gK) (h0 h1 h2 : Nat) (sf : Nat → Int32) (lf : Nat → Int32) (x : Int32) (y : Int32) (z : Int32) (zz : Unit) (uu : (Nat → Int32) × (Nat → Int32)) : Prop := match zz, uu with
  | _, (sf2, lf2) => True
def po_Cxt_set (k : gK) (h0 h1 h2 : Nat) (sf : Nat → Int32) (lf : Nat → Int32) (x : Int32) (y : Int32) (z : Int32) (uu : (Nat → Int32) × (Nat → Int32)) : Prop := match uu with
  | (sf2, lf2) => sf2 = (cset sf lf x y z).1 ∧ lf2 = (cset sf lf x y z).2
def qc_Cxt_set (D : va_G) (k : gK) (h0 h1 h2 : Nat) (sf : Nat → Int32) (lf : Nat → Int32) (x : Int32) (y : Int32) (z : Int32) (A : Nat → Prop) : Array Value → State → Outcome → State → Prop := va_Qv (po_Cxt_set k h0 h1 h2 sf lf x y z) (fun uu t => ∃ zz, ex_Cxt_set k h0 h1 h2 sf lf x y z zz uu ∧ GP D A (wo_Cxt_set k h0 h1 h2 sf lf x y z zz uu) t) A
set_option maxHeartbeats 1000000 in
set_option maxRecDepth 100000 in
theorem c_Cxt_set (l : Launch) (hl9 : l.stackTraces = false) (D : va_G) (k : gK) (h0 h1 h2 : Nat) (zsz : Nat) (sf : Nat → Int32) (lf : Nat → Int32) (x : Int32) (y : Int32) (z : Int32) : Met l y_Cxt_set (.code y_Cxt_set b_Cxt_set 4 none :: AW) ({ frames := 0, cells := 0, slots := 0, locals := 0 }) (va_Pc [.ref h0, .int x, .int y, .int z] (GG D k [(h0, .inr (1, [.ref h1, .ref h2])), (h1, .inl (k.1, 19, .inl sf)), (h2, .inl (k.1, 19, .inl lf))] zsz)) (qc_Cxt_set D k h0 h1 h2 sf lf x y z (va_A [(h0, .inr (1, [.ref h1, .ref h2])), (h1, .inl (k.1, 19, .inl sf)), (h2, .inl (k.1, 19, .inl lf))] zsz)) 0 0 (va_A [(h0, .inr (1, [.ref h1, .ref h2])), (h1, .inl (k.1, 19, .inl sf)), (h2, .inl (k.1, 19, .inl lf))] zsz) := by
  refine kMet (ws := [(h0, .inr (1, [.ref h1, .ref h2])), (h1, .inl (k.1, 19, .inl sf)), (h2, .inl (k.1, 19, .inl lf))]) (Qc := qc_Cxt_set D k h0 h1 h2 sf lf x y z) (by decide) (Nat.le_of_ble_eq_true rfl) (fun p e s m below meth c ls A H Cc hP hD hA hS hl => ?_)
  obtain ⟨hx, hb, hml, hr, hlk, hown, hts, hK, hE, hin⟩ := Cc
  have hl : lv_has ls 4 [(0, .ref h0), (1, .int x), (2, .int y), (3, .int z)] := hl
  refine lv_iload_n hx hb d_Cxt_set_0 rfl (lv_at hl 1 rfl) ?_
  refine lv_if_lt (tgt := 36) hx hb d_Cxt_set_1 (by decide) (fun c1 => ?_) (fun c1 => ?_)
  · exact krv (wo := wo_Cxt_set k h0 h1 h2 sf lf x y z) hx hb hr hlk hP hD hS (sf, lf) () (by simp [po_Cxt_set, cset, c1]) trivial [0, 1, 2] rfl (by decide) (Nat.le_of_ble_eq_true rfl) (Nat.le_of_ble_eq_true rfl) d_Cxt_set_36
  · refine lv_iload_n hx hb d_Cxt_set_4 rfl (lv_at hl 1 rfl) ?_
    refine lv_aload_n hx hb d_Cxt_set_5 rfl (lv_at hl 0 rfl) ?_
    refine va_get (D := D) (ci := 1) (v := .ref h1) (C := R_Cxt) (T := T_Cxt) (N := 2) hx hb hts inw_Cxt hown hK hP 0 rfl rfl 0 (by decide) (hts (.fieldLink R_Cxt 9 "LikelyBits$Contexts" "states" "[I") mw_20) (fun _ h9 => h9) rfl d_Cxt_set_6 ?_
    refine va_alen (v := 19) hx hb hK hP 1 0 rfl rfl rfl d_Cxt_set_9 ?_
    refine lv_icmp_ge (tgt := 36) hx hb d_Cxt_set_10 (by decide) (fun c2 => ?_) (fun c2 => ?_)
    · exact krv (wo := wo_Cxt_set k h0 h1 h2 sf lf x y z) hx hb hr hlk hP hD hS (sf, lf) () (by simp [po_Cxt_set, cset, c1, c2]) trivial [0, 1, 2] rfl (by decide) (Nat.le_of_ble_eq_true rfl) (Nat.le_of_ble_eq_true rfl) d_Cxt_set_36
    · refine lv_iload_n hx hb d_Cxt_set_13 rfl (lv_at hl 1 rfl) ?_
      refine lv_aload_n hx hb d_Cxt_set_14 rfl (lv_at hl 0 rfl) ?_
      refine va_get (D := D) (ci := 1) (v := .ref h2) (C := R_Cxt) (T := T_Cxt) (N := 2) hx hb hts inw_Cxt hown hK hP 0 rfl rfl 1 (by decide) (hts (.fieldLink R_Cxt 15 "LikelyBits$Contexts" "likelyBits" "[I") mw_25) (fun _ h9 => h9) rfl d_Cxt_set_15 ?_
      refine va_alen (v := 19) hx hb hK hP 2 0 rfl rfl rfl d_Cxt_set_18 ?_
      refine lv_icmp_ge (tgt := 36) hx hb d_Cxt_set_19 (by decide) (fun c3 => ?_) (fun c3 => ?_)
      · exact absurd c3 c2
      · refine lv_aload_n hx hb d_Cxt_set_22 rfl (lv_at hl 0 rfl) ?_
        refine va_get (D := D) (ci := 1) (v := .ref h1) (C := R_Cxt) (T := T_Cxt) (N := 2) hx hb hts inw_Cxt hown hK hP 0 rfl rfl 0 (by decide) (hts (.fieldLink R_Cxt 9 "LikelyBits$Contexts" "states" "[I") mw_20) (fun _ h9 => h9) rfl d_Cxt_set_23 ?_
        refine lv_iload_n hx hb d_Cxt_set_26 rfl (lv_at hl 1 rfl) ?_
        refine lv_iload_n hx hb d_Cxt_set_27 rfl (lv_at hl 2 rfl) ?_
        refine va_iast hx hb hK hP hD hS 1 0 rfl rfl (ix_in (n := 19) (by decide) c1 c2) d_Cxt_set_28 (fun H locs hP hD hS => ?_)
        have hP : va_P D vwCl [(h0, .inr (1, [.ref h1, .ref h2])), (h1, .inl (k.1, 19, .inl (upd sf x.toNatClampNeg y))), (h2, .inl (k.1, 19, .inl lf))] H := hP
        have hD : va_D A [(h0, .inr (1, [.ref h1, .ref h2])), (h1, .inl (k.1, 19, .inl (upd sf x.toNatClampNeg y))), (h2, .inl (k.1, 19, .inl lf))] := hD
        refine lv_aload_n hx hb d_Cxt_set_29 rfl (lv_at hl 0 rfl) ?_
        refine va_get (D := D) (ci := 1) (v := .ref h2) (C := R_Cxt) (T := T_Cxt) (N := 2) hx hb hts inw_Cxt hown hK hP 0 rfl rfl 1 (by decide) (hts (.fieldLink R_Cxt 15 "LikelyBits$Contexts" "likelyBits" "[I") mw_25) (fun _ h9 => h9) rfl d_Cxt_set_30 ?_
        refine lv_iload_n hx hb d_Cxt_set_33 rfl (lv_at hl 1 rfl) ?_
        refine lv_iload_n hx hb d_Cxt_set_34 rfl (lv_at hl 3 rfl) ?_
        refine va_iast hx hb hK hP hD hS 2 0 rfl rfl (ix_in (n := 19) (by decide) c1 c2) d_Cxt_set_35 (fun H locs hP hD hS => ?_)
        have hP : va_P D vwCl [(h0, .inr (1, [.ref h1, .ref h2])), (h1, .inl (k.1, 19, .inl (upd sf x.toNatClampNeg y))), (h2, .inl (k.1, 19, .inl (upd lf x.toNatClampNeg z)))] H := hP
        have hD : va_D A [(h0, .inr (1, [.ref h1, .ref h2])), (h1, .inl (k.1, 19, .inl (upd sf x.toNatClampNeg y))), (h2, .inl (k.1, 19, .inl (upd lf x.toNatClampNeg z)))] := hD
        exact krv (wo := wo_Cxt_set k h0 h1 h2 sf lf x y z) hx hb hr hlk hP hD hS (upd sf x.toNatClampNeg y, upd lf x.toNatClampNeg z) () (by simp [po_Cxt_set, cset, c1, c2, c3]) trivial [0, 1, 2] rfl (by decide) (Nat.le_of_ble_eq_true rfl) (Nat.le_of_ble_eq_true rfl) d_Cxt_set_36

def wo_Cxt_afterLikely (k : gK) (h0 h1 h2 : Nat) (sf : Nat → Int32) (lf : Nat → Int32) (x : Int32) (zz : Unit) (uu : (Nat → Int32) × (Nat → Int32)) : va_W := match zz, uu with
  | _, (sf2, lf2) => [(h0, .inr (1, [.ref h1, .ref h2])), (h1, .inl (k.1, 19, .inl sf2)), (h2, .inl (k.1, 19, .inl lf2))]
def ex_Cxt_afterLikely (k : gK) (h0 h1 h2 : Nat) (sf : Nat → Int32) (lf : Nat → Int32) (x : Int32) (zz : Unit) (uu : (Nat → Int32) × (Nat → Int32)) : Prop := match zz, uu with
  | _, (sf2, lf2) => True
def po_Cxt_afterLikely (k : gK) (h0 h1 h2 : Nat) (sf : Nat → Int32) (lf : Nat → Int32) (x : Int32) (uu : (Nat → Int32) × (Nat → Int32)) : Prop := match uu with
  | (sf2, lf2) => sf2 = (cLk sf lf x).1 ∧ lf2 = (cLk sf lf x).2
def qc_Cxt_afterLikely (D : va_G) (k : gK) (h0 h1 h2 : Nat) (sf : Nat → Int32) (lf : Nat → Int32) (x : Int32) (A : Nat → Prop) : Array Value → State → Outcome → State → Prop := va_Qv (po_Cxt_afterLikely k h0 h1 h2 sf lf x) (fun uu t => ∃ zz, ex_Cxt_afterLikely k h0 h1 h2 sf lf x zz uu ∧ GP D A (wo_Cxt_afterLikely k h0 h1 h2 sf lf x zz uu) t) A
set_option maxHeartbeats 1000000 in
set_option maxRecDepth 100000 in
theorem c_Cxt_afterLikely (l : Launch) (hl9 : l.stackTraces = false) (D : va_G) (k : gK) (h0 h1 h2 : Nat) (zsz : Nat) (sf : Nat → Int32) (lf : Nat → Int32) (x : Int32) : Met l y_Cxt_afterLikely (.code y_Cxt_afterLikely b_Cxt_afterLikely 2 none :: AW) ({ frames := 2, cells := 0, slots := 0, locals := 42 }) (va_Pc [.ref h0, .int x] (GG D k [(h0, .inr (1, [.ref h1, .ref h2])), (h1, .inl (k.1, 19, .inl sf)), (h2, .inl (k.1, 19, .inl lf))] zsz)) (qc_Cxt_afterLikely D k h0 h1 h2 sf lf x (va_A [(h0, .inr (1, [.ref h1, .ref h2])), (h1, .inl (k.1, 19, .inl sf)), (h2, .inl (k.1, 19, .inl lf))] zsz)) 0 0 (va_A [(h0, .inr (1, [.ref h1, .ref h2])), (h1, .inl (k.1, 19, .inl sf)), (h2, .inl (k.1, 19, .inl lf))] zsz) := by
  refine kMet (ws := [(h0, .inr (1, [.ref h1, .ref h2])), (h1, .inl (k.1, 19, .inl sf)), (h2, .inl (k.1, 19, .inl lf))]) (Qc := qc_Cxt_afterLikely D k h0 h1 h2 sf lf x) (by decide) (Nat.le_of_ble_eq_true rfl) (fun p e s m below meth c ls A H Cc hP hD hA hS hl => ?_)
  obtain ⟨hx, hb, hml, hr, hlk, hown, hts, hK, hE, hin⟩ := Cc
  have hl : lv_has ls 2 [(0, .ref h0), (1, .int x)] := hl
  refine lv_aload_n hx hb d_Cxt_afterLikely_0 rfl (lv_at hl 0 rfl) ?_
  refine lv_iload_n hx hb d_Cxt_afterLikely_1 rfl (lv_at hl 1 rfl) ?_
  refine va_getsN hx hb hE.zN hS hown (hE.nest (.fieldLinkNest R_Cxt 29 "LikelyBits" "NEXT_STATES" "[I" "LikelyBits") nw_1) (fun _ h9 => h9) d_Cxt_afterLikely_2 ?_
  refine lv_aload_n hx hb d_Cxt_afterLikely_5 rfl (lv_at hl 0 rfl) ?_
  refine lv_iload_n hx hb d_Cxt_afterLikely_6 rfl (lv_at hl 1 rfl) ?_
  refine kqi (va_runV (As := [.int x]) (rest := [.ref k.2.2.2.1, .int x, .ref h0]) ⟨hx, hb, hml, hown, hts⟩ (c_Cxt_stateOf l hl9 D k h0 h1 h2 sf lf x ) (cwV 1 hts (gV mw_26 mw_27 mw_28 mw_23 mw_29) rfl rfl rfl (by decide +kernel) ⟨(Nat.le_of_ble_eq_true rfl), (Nat.le_of_ble_eq_true rfl)⟩) (kRecv (q := (R_Cxt, T_Cxt, 2)) (q0 := 0) (ci := 1) hK hP rfl rfl (kPreR (wc := [(h0, .inr (1, [.ref h1, .ref h2])), (h1, .inl (k.1, 19, .inl sf)), (h2, .inl (k.1, 19, .inl lf))]) hE hK hP hS [0, 1, 2] rfl)) rfl rfl hl.1 rfl (lv_room (Nat.le_of_ble_eq_true rfl)) d_Cxt_afterLikely_7 ⟨(Nat.le_of_ble_eq_true rfl), (Nat.le_of_ble_eq_true rfl)⟩) hP hS (fun r1 H locs hw hP hS => ?_)
  replace hw := hw.symm
  subst hw
  refine kqi (va_runS (As := [.ref k.2.2.2.1, .int (ent 19 sf x)]) (rest := [.int x, .ref h0]) ⟨hx, hb, hml, hown, hts⟩ (c_Cxt_entryN l hl9 D k  (ent 19 sf x) ) (cwS 2 hts (gS mw_21 mw_22 mw_23 mw_24) rfl rfl rfl (by decide +kernel) ⟨(Nat.le_of_ble_eq_true rfl), (Nat.le_of_ble_eq_true rfl)⟩) (kPreR (wc := []) hE hK hP hS [] rfl) rfl rfl hl.1 rfl (lv_room (Nat.le_of_ble_eq_true rfl)) d_Cxt_afterLikely_10 ⟨(Nat.le_of_ble_eq_true rfl), (Nat.le_of_ble_eq_true rfl)⟩) hP hS (fun r2 H locs hw hP hS => ?_)
  replace hw := hw.symm
  subst hw
  refine lv_aload_n hx hb d_Cxt_afterLikely_13 rfl (lv_at hl 0 rfl) ?_
  refine lv_iload_n hx hb d_Cxt_afterLikely_14 rfl (lv_at hl 1 rfl) ?_
  refine kqi (va_runV (As := [.int x]) (rest := [.int (ent 47 tfN (ent 19 sf x)), .int x, .ref h0]) ⟨hx, hb, hml, hown, hts⟩ (c_Cxt_likelyBitOf l hl9 D k h0 h1 h2 sf lf x ) (cwV 1 hts (gV mw_30 mw_31 mw_32 mw_23 mw_33) rfl rfl rfl (by decide +kernel) ⟨(Nat.le_of_ble_eq_true rfl), (Nat.le_of_ble_eq_true rfl)⟩) (kRecv (q := (R_Cxt, T_Cxt, 2)) (q0 := 0) (ci := 1) hK hP rfl rfl (kPreR (wc := [(h0, .inr (1, [.ref h1, .ref h2])), (h1, .inl (k.1, 19, .inl sf)), (h2, .inl (k.1, 19, .inl lf))]) hE hK hP hS [0, 1, 2] rfl)) rfl rfl hl.1 rfl (lv_room (Nat.le_of_ble_eq_true rfl)) d_Cxt_afterLikely_15 ⟨(Nat.le_of_ble_eq_true rfl), (Nat.le_of_ble_eq_true rfl)⟩) hP hS (fun r3 H locs hw hP hS => ?_)
  replace hw := hw.symm
  subst hw
  refine kcv (wc := [(h0, .inr (1, [.ref h1, .ref h2])), (h1, .inl (k.1, 19, .inl sf)), (h2, .inl (k.1, 19, .inl lf))]) (wr := []) (va_runV (As := [.int x, .int (ent 47 tfN (ent 19 sf x)), .int (ent 19 lf x)]) (rest := []) ⟨hx, hb, hml, hown, hts⟩ (c_Cxt_set l hl9 D k h0 h1 h2 H.size sf lf x (ent 47 tfN (ent 19 sf x)) (ent 19 lf x) ) (cwV 3 hts (gV mw_34 mw_35 mw_36 mw_23 mw_37) rfl rfl rfl (by decide +kernel) ⟨(Nat.le_of_ble_eq_true rfl), (Nat.le_of_ble_eq_true rfl)⟩) (kRecv (q := (R_Cxt, T_Cxt, 2)) (q0 := 0) (ci := 1) hK hP rfl rfl (kPre (wc := [(h0, .inr (1, [.ref h1, .ref h2])), (h1, .inl (k.1, 19, .inl sf)), (h2, .inl (k.1, 19, .inl lf))]) hE hK hP hD hS hA [0, 1, 2] rfl (by decide))) rfl rfl hl.1 rfl (lv_room (Nat.le_of_ble_eq_true rfl)) d_Cxt_afterLikely_18 ⟨(Nat.le_of_ble_eq_true rfl), (Nat.le_of_ble_eq_true rfl)⟩) hP hD hS hA [0, 1, 2] [] rfl rfl (by decide) (by decide) (fun zz uu H locs hw7 hz8 hP hD hS => ?_)
  obtain ⟨sf_4, lf_5⟩ := uu
  have hw7 : sf_4 = (cset sf lf x (ent 47 tfN (ent 19 sf x)) (ent 19 lf x)).1 ∧ lf_5 = (cset sf lf x (ent 47 tfN (ent 19 sf x)) (ent 19 lf x)).2 := hw7
  have hP : va_P D vwCl [(h0, .inr (1, [.ref h1, .ref h2])), (h1, .inl (k.1, 19, .inl sf_4)), (h2, .inl (k.1, 19, .inl lf_5))] H := hP
  have hD : va_D A [(h0, .inr (1, [.ref h1, .ref h2])), (h1, .inl (k.1, 19, .inl sf_4)), (h2, .inl (k.1, 19, .inl lf_5))] := hD
  exact krv (wo := wo_Cxt_afterLikely k h0 h1 h2 sf lf x) hx hb hr hlk hP hD hS (sf_4, lf_5) () (by obtain ⟨rfl, rfl⟩ := hw7; simp [po_Cxt_afterLikely, cLk]) trivial [0, 1, 2] rfl (by decide) (Nat.le_of_ble_eq_true rfl) (Nat.le_of_ble_eq_true rfl) d_Cxt_afterLikely_21

def wo_Cxt_afterOther (k : gK) (h0 h1 h2 : Nat) (sf : Nat → Int32) (lf : Nat → Int32) (x : Int32) (zz : Unit) (uu : (Nat → Int32) × (Nat → Int32)) : va_W := match zz, uu with
  | _, (sf2, lf2) => [(h0, .inr (1, [.ref h1, .ref h2])), (h1, .inl (k.1, 19, .inl sf2)), (h2, .inl (k.1, 19, .inl lf2))]
def ex_Cxt_afterOther (k : gK) (h0 h1 h2 : Nat) (sf : Nat → Int32) (lf : Nat → Int32) (x : Int32) (zz : Unit) (uu : (Nat → Int32) × (Nat → Int32)) : Prop := match zz, uu with
  | _, (sf2, lf2) => True
def po_Cxt_afterOther (k : gK) (h0 h1 h2 : Nat) (sf : Nat → Int32) (lf : Nat → Int32) (x : Int32) (uu : (Nat → Int32) × (Nat → Int32)) : Prop := match uu with
  | (sf2, lf2) => sf2 = (cOt sf lf x).1 ∧ lf2 = (cOt sf lf x).2
def qc_Cxt_afterOther (D : va_G) (k : gK) (h0 h1 h2 : Nat) (sf : Nat → Int32) (lf : Nat → Int32) (x : Int32) (A : Nat → Prop) : Array Value → State → Outcome → State → Prop := va_Qv (po_Cxt_afterOther k h0 h1 h2 sf lf x) (fun uu t => ∃ zz, ex_Cxt_afterOther k h0 h1 h2 sf lf x zz uu ∧ GP D A (wo_Cxt_afterOther k h0 h1 h2 sf lf x zz uu) t) A
set_option maxHeartbeats 1000000 in
set_option maxRecDepth 100000 in
theorem c_Cxt_afterOther (l : Launch) (hl9 : l.stackTraces = false) (D : va_G) (k : gK) (h0 h1 h2 : Nat) (zsz : Nat) (sf : Nat → Int32) (lf : Nat → Int32) (x : Int32) : Met l y_Cxt_afterOther (.code y_Cxt_afterOther b_Cxt_afterOther 4 none :: AW) ({ frames := 2, cells := 0, slots := 0, locals := 42 }) (va_Pc [.ref h0, .int x] (GG D k [(h0, .inr (1, [.ref h1, .ref h2])), (h1, .inl (k.1, 19, .inl sf)), (h2, .inl (k.1, 19, .inl lf))] zsz)) (qc_Cxt_afterOther D k h0 h1 h2 sf lf x (va_A [(h0, .inr (1, [.ref h1, .ref h2])), (h1, .inl (k.1, 19, .inl sf)), (h2, .inl (k.1, 19, .inl lf))] zsz)) 0 0 (va_A [(h0, .inr (1, [.ref h1, .ref h2])), (h1, .inl (k.1, 19, .inl sf)), (h2, .inl (k.1, 19, .inl lf))] zsz) := by
  refine kMet (ws := [(h0, .inr (1, [.ref h1, .ref h2])), (h1, .inl (k.1, 19, .inl sf)), (h2, .inl (k.1, 19, .inl lf))]) (Qc := qc_Cxt_afterOther D k h0 h1 h2 sf lf x) (by decide) (Nat.le_of_ble_eq_true rfl) (fun p e s m below meth c ls A H Cc hP hD hA hS hl => ?_)
  obtain ⟨hx, hb, hml, hr, hlk, hown, hts, hK, hE, hin⟩ := Cc
  have hl : lv_has ls 4 [(0, .ref h0), (1, .int x)] := hl
  refine lv_aload_n hx hb d_Cxt_afterOther_0 rfl (lv_at hl 0 rfl) ?_
  refine lv_iload_n hx hb d_Cxt_afterOther_1 rfl (lv_at hl 1 rfl) ?_
  refine kqi (va_runV (As := [.int x]) (rest := []) ⟨hx, hb, hml, hown, hts⟩ (c_Cxt_stateOf l hl9 D k h0 h1 h2 sf lf x ) (cwV 1 hts (gV mw_26 mw_27 mw_28 mw_23 mw_29) rfl rfl rfl (by decide +kernel) ⟨(Nat.le_of_ble_eq_true rfl), (Nat.le_of_ble_eq_true rfl)⟩) (kRecv (q := (R_Cxt, T_Cxt, 2)) (q0 := 0) (ci := 1) hK hP rfl rfl (kPreR (wc := [(h0, .inr (1, [.ref h1, .ref h2])), (h1, .inl (k.1, 19, .inl sf)), (h2, .inl (k.1, 19, .inl lf))]) hE hK hP hS [0, 1, 2] rfl)) rfl rfl hl.1 rfl (lv_room (Nat.le_of_ble_eq_true rfl)) d_Cxt_afterOther_2 ⟨(Nat.le_of_ble_eq_true rfl), (Nat.le_of_ble_eq_true rfl)⟩) hP hS (fun r1 H locs hw hP hS => ?_)
  replace hw := hw.symm
  subst hw
  refine lv_topi (fun x2 ex2 => ?_)
  refine lv_istore_n (lv' := [(2, .int x2), (0, .ref h0), (1, .int x)]) hx hb d_Cxt_afterOther_5 rfl hl (by decide) rfl (fun ls hl => ?_)
  refine lv_iload_n hx hb d_Cxt_afterOther_6 rfl (lv_at hl 0 rfl) ?_
  refine kqi (va_runS (As := [.int x2]) (rest := []) ⟨hx, hb, hml, hown, hts⟩ (c_Cxt_turns l hl9 D k  x2 ) (cwS 1 hts (gS mw_38 mw_39 mw_23 mw_40) rfl rfl rfl (by decide +kernel) ⟨(Nat.le_of_ble_eq_true rfl), (Nat.le_of_ble_eq_true rfl)⟩) (kPreR (wc := []) hE hK hP hS [] rfl) rfl rfl hl.1 rfl (lv_room (Nat.le_of_ble_eq_true rfl)) d_Cxt_afterOther_7 ⟨(Nat.le_of_ble_eq_true rfl), (Nat.le_of_ble_eq_true rfl)⟩) hP hS (fun r3 H locs hw hP hS => ?_)
  replace hw := hw.symm
  subst hw
  refine lv_if_eq (tgt := 23) hx hb d_Cxt_afterOther_10 (by decide) (fun c4 => ?_) (fun c4 => ?_)
  · refine lv_aload_n hx hb d_Cxt_afterOther_23 rfl (lv_at hl 1 rfl) ?_
    refine lv_iload_n hx hb d_Cxt_afterOther_24 rfl (lv_at hl 2 rfl) ?_
    refine kqi (va_runV (As := [.int x]) (rest := []) ⟨hx, hb, hml, hown, hts⟩ (c_Cxt_likelyBitOf l hl9 D k h0 h1 h2 sf lf x ) (cwV 1 hts (gV mw_30 mw_31 mw_32 mw_23 mw_33) rfl rfl rfl (by decide +kernel) ⟨(Nat.le_of_ble_eq_true rfl), (Nat.le_of_ble_eq_true rfl)⟩) (kRecv (q := (R_Cxt, T_Cxt, 2)) (q0 := 0) (ci := 1) hK hP rfl rfl (kPreR (wc := [(h0, .inr (1, [.ref h1, .ref h2])), (h1, .inl (k.1, 19, .inl sf)), (h2, .inl (k.1, 19, .inl lf))]) hE hK hP hS [0, 1, 2] rfl)) rfl rfl hl.1 rfl (lv_room (Nat.le_of_ble_eq_true rfl)) d_Cxt_afterOther_25 ⟨(Nat.le_of_ble_eq_true rfl), (Nat.le_of_ble_eq_true rfl)⟩) hP hS (fun r5 H locs hw hP hS => ?_)
    replace hw := hw.symm
    subst hw
    refine lv_topi (fun x6 ex6 => ?_)
    refine lv_istore_n (lv' := [(3, .int x6), (2, .int x2), (0, .ref h0), (1, .int x)]) hx hb d_Cxt_afterOther_28 rfl hl (by decide) rfl (fun ls hl => ?_)
    refine lv_aload_n hx hb d_Cxt_afterOther_29 rfl (lv_at hl 2 rfl) ?_
    refine lv_iload_n hx hb d_Cxt_afterOther_30 rfl (lv_at hl 3 rfl) ?_
    refine va_getsN hx hb hE.zO hS hown (hE.nest (.fieldLinkNest R_Cxt 43 "LikelyBits" "OTHER_STATES" "[I" "LikelyBits") nw_2) (fun _ h9 => h9) d_Cxt_afterOther_31 ?_
    refine lv_iload_n hx hb d_Cxt_afterOther_34 rfl (lv_at hl 1 rfl) ?_
    refine kqi (va_runS (As := [.ref k.2.2.2.2.1, .int x2]) (rest := [.int x, .ref h0]) ⟨hx, hb, hml, hown, hts⟩ (c_Cxt_entryO l hl9 D k  x2 ) (cwS 2 hts (gS mw_21 mw_22 mw_23 mw_24) rfl rfl rfl (by decide +kernel) ⟨(Nat.le_of_ble_eq_true rfl), (Nat.le_of_ble_eq_true rfl)⟩) (kPreR (wc := []) hE hK hP hS [] rfl) rfl rfl hl.1 rfl (lv_room (Nat.le_of_ble_eq_true rfl)) d_Cxt_afterOther_35 ⟨(Nat.le_of_ble_eq_true rfl), (Nat.le_of_ble_eq_true rfl)⟩) hP hS (fun r7 H locs hw hP hS => ?_)
    replace hw := hw.symm
    subst hw
    refine lv_iload_n hx hb d_Cxt_afterOther_38 rfl (lv_at hl 0 rfl) ?_
    refine kcv (wc := [(h0, .inr (1, [.ref h1, .ref h2])), (h1, .inl (k.1, 19, .inl sf)), (h2, .inl (k.1, 19, .inl lf))]) (wr := []) (va_runV (As := [.int x, .int (ent 47 tfO x2), .int x6]) (rest := []) ⟨hx, hb, hml, hown, hts⟩ (c_Cxt_set l hl9 D k h0 h1 h2 H.size sf lf x (ent 47 tfO x2) x6 ) (cwV 3 hts (gV mw_34 mw_35 mw_36 mw_23 mw_37) rfl rfl rfl (by decide +kernel) ⟨(Nat.le_of_ble_eq_true rfl), (Nat.le_of_ble_eq_true rfl)⟩) (kRecv (q := (R_Cxt, T_Cxt, 2)) (q0 := 0) (ci := 1) hK hP rfl rfl (kPre (wc := [(h0, .inr (1, [.ref h1, .ref h2])), (h1, .inl (k.1, 19, .inl sf)), (h2, .inl (k.1, 19, .inl lf))]) hE hK hP hD hS hA [0, 1, 2] rfl (by decide))) rfl rfl hl.1 rfl (lv_room (Nat.le_of_ble_eq_true rfl)) d_Cxt_afterOther_39 ⟨(Nat.le_of_ble_eq_true rfl), (Nat.le_of_ble_eq_true rfl)⟩) hP hD hS hA [0, 1, 2] [] rfl rfl (by decide) (by decide) (fun zz uu H locs hw11 hz12 hP hD hS => ?_)
    obtain ⟨sf_8, lf_9⟩ := uu
    have hw11 : sf_8 = (cset sf lf x (ent 47 tfO x2) x6).1 ∧ lf_9 = (cset sf lf x (ent 47 tfO x2) x6).2 := hw11
    have hP : va_P D vwCl [(h0, .inr (1, [.ref h1, .ref h2])), (h1, .inl (k.1, 19, .inl sf_8)), (h2, .inl (k.1, 19, .inl lf_9))] H := hP
    have hD : va_D A [(h0, .inr (1, [.ref h1, .ref h2])), (h1, .inl (k.1, 19, .inl sf_8)), (h2, .inl (k.1, 19, .inl lf_9))] := hD
    exact krv (wo := wo_Cxt_afterOther k h0 h1 h2 sf lf x) hx hb hr hlk hP hD hS (sf_8, lf_9) () (by obtain ⟨rfl, rfl⟩ := hw11; subst ex6; subst ex2; simp [po_Cxt_afterOther, cOt, c4]) trivial [0, 1, 2] rfl (by decide) (Nat.le_of_ble_eq_true rfl) (Nat.le_of_ble_eq_true rfl) d_Cxt_afterOther_42
  · refine lv_iconst (v := 1) hx hb d_Cxt_afterOther_13 (by decide) ?_
    refine lv_aload_n hx hb d_Cxt_afterOther_14 rfl (lv_at hl 1 rfl) ?_
    refine lv_iload_n hx hb d_Cxt_afterOther_15 rfl (lv_at hl 2 rfl) ?_
    refine kqi (va_runV (As := [.int x]) (rest := [.int 1]) ⟨hx, hb, hml, hown, hts⟩ (c_Cxt_likelyBitOf l hl9 D k h0 h1 h2 sf lf x ) (cwV 1 hts (gV mw_30 mw_31 mw_32 mw_23 mw_33) rfl rfl rfl (by decide +kernel) ⟨(Nat.le_of_ble_eq_true rfl), (Nat.le_of_ble_eq_true rfl)⟩) (kRecv (q := (R_Cxt, T_Cxt, 2)) (q0 := 0) (ci := 1) hK hP rfl rfl (kPreR (wc := [(h0, .inr (1, [.ref h1, .ref h2])), (h1, .inl (k.1, 19, .inl sf)), (h2, .inl (k.1, 19, .inl lf))]) hE hK hP hS [0, 1, 2] rfl)) rfl rfl hl.1 rfl (lv_room (Nat.le_of_ble_eq_true rfl)) d_Cxt_afterOther_16 ⟨(Nat.le_of_ble_eq_true rfl), (Nat.le_of_ble_eq_true rfl)⟩) hP hS (fun r13 H locs hw hP hS => ?_)
    replace hw := hw.symm
    subst hw
    refine lv_isub hx hb d_Cxt_afterOther_19 ?_
    refine lv_goto (tgt := 28) hx hb d_Cxt_afterOther_20 (by decide) ?_
    refine lv_topi (fun x14 ex14 => ?_)
    refine lv_istore_n (lv' := [(3, .int x14), (2, .int x2), (0, .ref h0), (1, .int x)]) hx hb d_Cxt_afterOther_28 rfl hl (by decide) rfl (fun ls hl => ?_)
    refine lv_aload_n hx hb d_Cxt_afterOther_29 rfl (lv_at hl 2 rfl) ?_
    refine lv_iload_n hx hb d_Cxt_afterOther_30 rfl (lv_at hl 3 rfl) ?_
    refine va_getsN hx hb hE.zO hS hown (hE.nest (.fieldLinkNest R_Cxt 43 "LikelyBits" "OTHER_STATES" "[I" "LikelyBits") nw_2) (fun _ h9 => h9) d_Cxt_afterOther_31 ?_
    refine lv_iload_n hx hb d_Cxt_afterOther_34 rfl (lv_at hl 1 rfl) ?_
    refine kqi (va_runS (As := [.ref k.2.2.2.2.1, .int x2]) (rest := [.int x, .ref h0]) ⟨hx, hb, hml, hown, hts⟩ (c_Cxt_entryO l hl9 D k  x2 ) (cwS 2 hts (gS mw_21 mw_22 mw_23 mw_24) rfl rfl rfl (by decide +kernel) ⟨(Nat.le_of_ble_eq_true rfl), (Nat.le_of_ble_eq_true rfl)⟩) (kPreR (wc := []) hE hK hP hS [] rfl) rfl rfl hl.1 rfl (lv_room (Nat.le_of_ble_eq_true rfl)) d_Cxt_afterOther_35 ⟨(Nat.le_of_ble_eq_true rfl), (Nat.le_of_ble_eq_true rfl)⟩) hP hS (fun r15 H locs hw hP hS => ?_)
    replace hw := hw.symm
    subst hw
    refine lv_iload_n hx hb d_Cxt_afterOther_38 rfl (lv_at hl 0 rfl) ?_
    refine kcv (wc := [(h0, .inr (1, [.ref h1, .ref h2])), (h1, .inl (k.1, 19, .inl sf)), (h2, .inl (k.1, 19, .inl lf))]) (wr := []) (va_runV (As := [.int x, .int (ent 47 tfO x2), .int x14]) (rest := []) ⟨hx, hb, hml, hown, hts⟩ (c_Cxt_set l hl9 D k h0 h1 h2 H.size sf lf x (ent 47 tfO x2) x14 ) (cwV 3 hts (gV mw_34 mw_35 mw_36 mw_23 mw_37) rfl rfl rfl (by decide +kernel) ⟨(Nat.le_of_ble_eq_true rfl), (Nat.le_of_ble_eq_true rfl)⟩) (kRecv (q := (R_Cxt, T_Cxt, 2)) (q0 := 0) (ci := 1) hK hP rfl rfl (kPre (wc := [(h0, .inr (1, [.ref h1, .ref h2])), (h1, .inl (k.1, 19, .inl sf)), (h2, .inl (k.1, 19, .inl lf))]) hE hK hP hD hS hA [0, 1, 2] rfl (by decide))) rfl rfl hl.1 rfl (lv_room (Nat.le_of_ble_eq_true rfl)) d_Cxt_afterOther_39 ⟨(Nat.le_of_ble_eq_true rfl), (Nat.le_of_ble_eq_true rfl)⟩) hP hD hS hA [0, 1, 2] [] rfl rfl (by decide) (by decide) (fun zz uu H locs hw19 hz20 hP hD hS => ?_)
    obtain ⟨sf_16, lf_17⟩ := uu
    have hw19 : sf_16 = (cset sf lf x (ent 47 tfO x2) x14).1 ∧ lf_17 = (cset sf lf x (ent 47 tfO x2) x14).2 := hw19
    have hP : va_P D vwCl [(h0, .inr (1, [.ref h1, .ref h2])), (h1, .inl (k.1, 19, .inl sf_16)), (h2, .inl (k.1, 19, .inl lf_17))] H := hP
    have hD : va_D A [(h0, .inr (1, [.ref h1, .ref h2])), (h1, .inl (k.1, 19, .inl sf_16)), (h2, .inl (k.1, 19, .inl lf_17))] := hD
    exact krv (wo := wo_Cxt_afterOther k h0 h1 h2 sf lf x) hx hb hr hlk hP hD hS (sf_16, lf_17) () (by obtain ⟨rfl, rfl⟩ := hw19; subst ex14; subst ex2; simp [po_Cxt_afterOther, cOt, c4]) trivial [0, 1, 2] rfl (by decide) (Nat.le_of_ble_eq_true rfl) (Nat.le_of_ble_eq_true rfl) d_Cxt_afterOther_42

def wo_Cxt_init (k : gK) (h0 : Nat) (zz : Nat × Nat) (uu : Unit) : va_W := match zz, uu with
  | (q1, q2), _ => [(h0, .inr (1, [.ref q1, .ref q2])), (q1, .inl (k.1, 19, .inl (fun _ => 0))), (q2, .inl (k.1, 19, .inl (fun _ => 0)))]
def ex_Cxt_init (k : gK) (h0 : Nat) (zz : Nat × Nat) (uu : Unit) : Prop := match zz, uu with
  | (q1, q2), _ => True
def po_Cxt_init (k : gK) (h0 : Nat) (uu : Unit) : Prop := match uu with
  | _ => True
def qc_Cxt_init (D : va_G) (k : gK) (h0 : Nat) (A : Nat → Prop) : Array Value → State → Outcome → State → Prop := va_Qv (po_Cxt_init k h0) (fun uu t => ∃ zz, ex_Cxt_init k h0 zz uu ∧ GP D A (wo_Cxt_init k h0 zz uu) t) A
set_option maxHeartbeats 1000000 in
set_option maxRecDepth 100000 in
theorem c_Cxt_init (l : Launch) (hl9 : l.stackTraces = false) (D : va_G) (k : gK) (h0 : Nat) (zsz : Nat)  : Met l y_Cxt_init (.code y_Cxt_init b_Cxt_init 1 none :: AW) ({ frames := 1, cells := 2, slots := 38, locals := 22 }) (va_Pc [.ref h0] (GG D k [(h0, .inr (1, [.null, .null]))] zsz)) (qc_Cxt_init D k h0 (va_A [(h0, .inr (1, [.null, .null]))] zsz)) 2 38 (va_A [(h0, .inr (1, [.null, .null]))] zsz) := by
  refine kMet (ws := [(h0, .inr (1, [.null, .null]))]) (Qc := qc_Cxt_init D k h0) (by decide) (Nat.le_of_ble_eq_true rfl) (fun p e s m below meth c ls A H Cc hP hD hA hS hl => ?_)
  obtain ⟨hx, hb, hml, hr, hlk, hown, hts, hK, hE, hin⟩ := Cc
  have hl : lv_has ls 1 [(0, .ref h0)] := hl
  refine lv_aload_n hx hb d_Cxt_init_0 rfl (lv_at hl 0 rfl) ?_
  refine W.objInit hx hb hown (hts (.methodLink R_Cxt 3 objectInit) mw_41) (hts (.instanceMethod objectInit) mw_3) (hts (.code objectInit ⟨#[0xb1]⟩ 1 none) mw_4) rfl (by rw [hml]; exact hl.1) rfl d_Cxt_init_1 (Nat.le_of_ble_eq_true rfl) (Nat.le_of_ble_eq_true rfl) ?_
  refine W.eq (g2 := F0 m 4 ls []) rfl ?_
  refine lv_aload_n hx hb d_Cxt_init_4 rfl (lv_at hl 0 rfl) ?_
  refine lv_bipush (v := 19) hx hb d_Cxt_init_5 (by decide) ?_
  refine va_newa (atype := .int) (ty := .int) (N' := 19) (a0 := (19, .inl (fun _ => 0))) hx hb (hts (.arrayClass .int) mw_5) rfl hK hP hD hS hA (ha_int 19) (by decide +kernel) (by decide +kernel) (by decide +kernel) (by first | omega | (dsimp only; omega)) (by first | omega | (dsimp only; omega)) d_Cxt_init_7 (fun q1 cA H hK1 hP hD hS => ?_)
  have ecA := newa_int hK1
  subst ecA
  have hP : va_P D vwCl [(h0, .inr (1, [.null, .null])), (q1, .inl (k.1, 19, .inl (fun _ => 0)))] H := hP
  have hD : va_D A [(h0, .inr (1, [.null, .null])), (q1, .inl (k.1, 19, .inl (fun _ => 0)))] := hD
  refine va_putF (D := D) (ci := 1) (v := .ref q1) (ty := .array .int) (C := R_Cxt) (T := T_Cxt) (N := 2) hx hb hts inw_Cxt ty_Cxt tyok_Cxt nm_Cxt hown hK hP hD hS 0 rfl rfl 0 (by decide) (hts (.fieldLink R_Cxt 9 "LikelyBits$Contexts" "states" "[I") mw_20) (fun _ h9 => h9) rfl hin rfl (by decide +kernel) rfl rfl (Nat.le_of_ble_eq_true rfl) d_Cxt_init_9 (fun H locs hP hD hS => ?_)
  have hP : va_P D vwCl [(h0, .inr (1, [.ref q1, .null])), (q1, .inl (k.1, 19, .inl (fun _ => 0)))] H := hP
  have hD : va_D A [(h0, .inr (1, [.ref q1, .null])), (q1, .inl (k.1, 19, .inl (fun _ => 0)))] := hD
  refine lv_aload_n hx hb d_Cxt_init_12 rfl (lv_at hl 0 rfl) ?_
  refine lv_bipush (v := 19) hx hb d_Cxt_init_13 (by decide) ?_
  refine va_newa (atype := .int) (ty := .int) (N' := 19) (a0 := (19, .inl (fun _ => 0))) hx hb (hts (.arrayClass .int) mw_5) rfl hK hP hD hS hA (ha_int 19) (by decide +kernel) (by decide +kernel) (by decide +kernel) (by first | omega | (dsimp only; omega)) (by first | omega | (dsimp only; omega)) d_Cxt_init_15 (fun q2 cA H hK1 hP hD hS => ?_)
  have ecA := newa_int hK1
  subst ecA
  have hP : va_P D vwCl [(h0, .inr (1, [.ref q1, .null])), (q1, .inl (k.1, 19, .inl (fun _ => 0))), (q2, .inl (k.1, 19, .inl (fun _ => 0)))] H := hP
  have hD : va_D A [(h0, .inr (1, [.ref q1, .null])), (q1, .inl (k.1, 19, .inl (fun _ => 0))), (q2, .inl (k.1, 19, .inl (fun _ => 0)))] := hD
  refine va_putF (D := D) (ci := 1) (v := .ref q2) (ty := .array .int) (C := R_Cxt) (T := T_Cxt) (N := 2) hx hb hts inw_Cxt ty_Cxt tyok_Cxt nm_Cxt hown hK hP hD hS 0 rfl rfl 1 (by decide) (hts (.fieldLink R_Cxt 15 "LikelyBits$Contexts" "likelyBits" "[I") mw_25) (fun _ h9 => h9) rfl hin rfl (by decide +kernel) rfl rfl (Nat.le_of_ble_eq_true rfl) d_Cxt_init_17 (fun H locs hP hD hS => ?_)
  have hP : va_P D vwCl [(h0, .inr (1, [.ref q1, .ref q2])), (q1, .inl (k.1, 19, .inl (fun _ => 0))), (q2, .inl (k.1, 19, .inl (fun _ => 0)))] H := hP
  have hD : va_D A [(h0, .inr (1, [.ref q1, .ref q2])), (q1, .inl (k.1, 19, .inl (fun _ => 0))), (q2, .inl (k.1, 19, .inl (fun _ => 0)))] := hD
  exact krv (wo := wo_Cxt_init k h0) hx hb hr hlk hP hD hS () (q1, q2) trivial trivial [0, 1, 2] rfl (by decide) (by first | omega | (dsimp only; omega)) (by first | omega | (dsimp only; omega)) d_Cxt_init_20

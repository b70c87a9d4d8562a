set_option maxRecDepth 20000 in
theorem mw_181 : (Cond.methodLink R_LB 123 y_LB_isContext) ∈ AW := inAW (List.mem_append_right _ (show _ ∈ tables_1_1 ++ (tables_1_2 ++ (tables_1_3 ++ tables_1_4)) from (List.mem_append_right _ (List.mem_append_left _ (List.mem_of_getElem? (i := 159) rfl))))) rfl
set_option maxRecDepth 20000 in
theorem mw_182 : (Cond.static y_LB_isContext) ∈ AW := inAW (List.mem_append_right _ (show _ ∈ tables_1_1 ++ (tables_1_2 ++ (tables_1_3 ++ tables_1_4)) from (List.mem_append_right _ (List.mem_append_left _ (List.mem_of_getElem? (i := 160) rfl))))) rfl
set_option maxRecDepth 20000 in
theorem mw_183 : (Cond.initialized R_LB) ∈ AW := inAW (List.mem_append_right _ (show _ ∈ tables_1_1 ++ (tables_1_2 ++ (tables_1_3 ++ tables_1_4)) from (List.mem_append_left _ (List.mem_of_getElem? (i := 1) rfl)))) rfl
set_option maxRecDepth 20000 in
theorem mw_184 : (Cond.code y_LB_isContext b_LB_isContext 1 (some .boolean)) ∈ AW := inAW (List.mem_append_right _ (show _ ∈ tables_1_1 ++ (tables_1_2 ++ (tables_1_3 ++ tables_1_4)) from (List.mem_append_right _ (List.mem_append_left _ (List.mem_of_getElem? (i := 161) rfl))))) rfl
set_option maxRecDepth 20000 in
theorem mw_185 : (Cond.fieldLink R_LB 19 "LikelyBits" "writerContexts" "LLikelyBits$Contexts;") ∈ AW := inAW (List.mem_append_right _ (show _ ∈ tables_1_1 ++ (tables_1_2 ++ (tables_1_3 ++ tables_1_4)) from (List.mem_append_left _ (List.mem_of_getElem? (i := 171) rfl)))) rfl
set_option maxRecDepth 20000 in
theorem mw_186 : (Cond.fieldLink R_LB 23 "LikelyBits" "readerContexts" "LLikelyBits$Contexts;") ∈ AW := inAW (List.mem_append_right _ (show _ ∈ tables_1_1 ++ (tables_1_2 ++ (tables_1_3 ++ tables_1_4)) from (List.mem_append_left _ (List.mem_of_getElem? (i := 172) rfl)))) rfl
set_option maxRecDepth 20000 in
theorem mw_187 : (Cond.fieldLink R_LB 147 "LikelyBits" "segmentRaw" "Z") ∈ AW := inAW (List.mem_append_right _ (show _ ∈ tables_1_1 ++ (tables_1_2 ++ (tables_1_3 ++ tables_1_4)) from (List.mem_append_left _ (List.mem_of_getElem? (i := 180) rfl)))) rfl
set_option maxRecDepth 20000 in
theorem mw_188 : (Cond.fieldLink R_LB 40 "LikelyBits" "codedWriter" "LLikelyBits$CodedWriter;") ∈ AW := inAW (List.mem_append_right _ (show _ ∈ tables_1_1 ++ (tables_1_2 ++ (tables_1_3 ++ tables_1_4)) from (List.mem_append_left _ (List.mem_of_getElem? (i := 174) rfl)))) rfl
set_option maxRecDepth 20000 in
theorem mw_189 : (Cond.fieldLink R_LB 49 "LikelyBits" "rawWriter" "LLikelyBits$RawWriter;") ∈ AW := inAW (List.mem_append_right _ (show _ ∈ tables_1_1 ++ (tables_1_2 ++ (tables_1_3 ++ tables_1_4)) from (List.mem_append_left _ (List.mem_of_getElem? (i := 175) rfl)))) rfl
set_option maxRecDepth 20000 in
theorem mw_190 : (Cond.fieldLink R_LB 81 "LikelyBits" "segmentOpen" "Z") ∈ AW := inAW (List.mem_append_right _ (show _ ∈ tables_1_1 ++ (tables_1_2 ++ (tables_1_3 ++ tables_1_4)) from (List.mem_append_left _ (List.mem_of_getElem? (i := 179) rfl)))) rfl
set_option maxRecDepth 20000 in
theorem mw_191 : (Cond.methodLink R_LB 214 y_LB_roomOfSegment) ∈ AW := inAW (List.mem_append_right _ (show _ ∈ tables_1_1 ++ (tables_1_2 ++ (tables_1_3 ++ tables_1_4)) from (List.mem_append_left _ (List.mem_of_getElem? (i := 222) rfl)))) rfl
set_option maxRecDepth 20000 in
theorem mw_192 : (Cond.instanceMethod y_LB_roomOfSegment) ∈ AW := inAW (List.mem_append_right _ (show _ ∈ tables_1_1 ++ (tables_1_2 ++ (tables_1_3 ++ tables_1_4)) from (List.mem_append_left _ (List.mem_of_getElem? (i := 224) rfl)))) rfl
set_option maxRecDepth 20000 in
theorem mw_193 : (Cond.selects R_LB y_LB_roomOfSegment y_LB_roomOfSegment) ∈ AW := inAW (List.mem_append_left _ (List.mem_of_getElem? (i := 0) rfl)) rfl
set_option maxRecDepth 20000 in
theorem mw_194 : (Cond.code y_LB_roomOfSegment b_LB_roomOfSegment 1 (some .int)) ∈ AW := inAW (List.mem_append_right _ (show _ ∈ tables_1_1 ++ (tables_1_2 ++ (tables_1_3 ++ tables_1_4)) from (List.mem_append_left _ (List.mem_of_getElem? (i := 225) rfl)))) rfl
set_option maxRecDepth 20000 in
theorem mw_195 : (Cond.fieldLink R_LB 85 "LikelyBits" "sourceRead" "Z") ∈ AW := inAW (List.mem_append_right _ (show _ ∈ tables_1_1 ++ (tables_1_2 ++ (tables_1_3 ++ tables_1_4)) from (List.mem_append_left _ (List.mem_of_getElem? (i := 181) rfl)))) rfl
set_option maxRecDepth 20000 in
theorem mw_196 : (Cond.fieldLink R_LB 56 "LikelyBits" "source" "LLikelyBits$Source;") ∈ AW := inAW (List.mem_append_right _ (show _ ∈ tables_1_1 ++ (tables_1_2 ++ (tables_1_3 ++ tables_1_4)) from (List.mem_append_left _ (List.mem_of_getElem? (i := 176) rfl)))) rfl
set_option maxRecDepth 20000 in
theorem mw_197 : (Cond.fieldLink R_LB 193 "LikelyBits" "sourceRaw" "Z") ∈ AW := inAW (List.mem_append_right _ (show _ ∈ tables_1_1 ++ (tables_1_2 ++ (tables_1_3 ++ tables_1_4)) from (List.mem_append_left _ (List.mem_of_getElem? (i := 182) rfl)))) rfl
set_option maxRecDepth 20000 in
theorem mw_198 : (Cond.fieldLink R_LB 65 "LikelyBits" "codedReader" "LLikelyBits$CodedReader;") ∈ AW := inAW (List.mem_append_right _ (show _ ∈ tables_1_1 ++ (tables_1_2 ++ (tables_1_3 ++ tables_1_4)) from (List.mem_append_left _ (List.mem_of_getElem? (i := 177) rfl)))) rfl
set_option maxRecDepth 20000 in
theorem mw_199 : (Cond.fieldLink R_LB 10 "LikelyBits" "row" "LLikelyBits$Row;") ∈ AW := inAW (List.mem_append_right _ (show _ ∈ tables_1_1 ++ (tables_1_2 ++ (tables_1_3 ++ tables_1_4)) from (List.mem_append_left _ (List.mem_of_getElem? (i := 170) rfl)))) rfl
set_option maxRecDepth 20000 in
theorem mw_200 : (Cond.methodLink R_LB 78 y_Row_empty) ∈ AW := inAW (List.mem_append_right _ (show _ ∈ tables_1_1 ++ (tables_1_2 ++ (tables_1_3 ++ tables_1_4)) from (List.mem_append_left _ (List.mem_of_getElem? (i := 214) rfl)))) rfl
set_option maxRecDepth 20000 in
theorem mw_201 : (Cond.instanceMethod y_Row_empty) ∈ AW := inAW (List.mem_append_right _ (show _ ∈ tables_1_1 ++ (tables_1_2 ++ (tables_1_3 ++ tables_1_4)) from (List.mem_append_left _ (List.mem_of_getElem? (i := 215) rfl)))) rfl
set_option maxRecDepth 20000 in
theorem mw_202 : (Cond.selects R_Row y_Row_empty y_Row_empty) ∈ AW := inAW (List.mem_append_right _ (show _ ∈ tables_1_1 ++ (tables_1_2 ++ (tables_1_3 ++ tables_1_4)) from (List.mem_append_left _ (List.mem_of_getElem? (i := 216) rfl)))) rfl
set_option maxRecDepth 20000 in
theorem mw_203 : (Cond.code y_Row_empty b_Row_empty 1 none) ∈ AW := inAW (List.mem_append_right _ (show _ ∈ tables_1_1 ++ (tables_1_2 ++ (tables_1_3 ++ tables_1_4)) from (List.mem_append_left _ (List.mem_of_getElem? (i := 217) rfl)))) rfl
set_option maxRecDepth 20000 in
theorem nw_3 : (Cond.fieldLinkNest R_LB 224 "LikelyBits$CodedWriter" "room" "I" "LikelyBits") ∈ NW := inNW (List.mem_append_right _ (show _ ∈ tables_1_1 ++ (tables_1_2 ++ (tables_1_3 ++ tables_1_4)) from (List.mem_append_left _ (List.mem_of_getElem? (i := 82) rfl)))) rfl
set_option maxRecDepth 20000 in
theorem nw_4 : (Cond.fieldLinkNest R_LB 221 "LikelyBits$RawWriter" "room" "I" "LikelyBits") ∈ NW := inNW (List.mem_append_right _ (show _ ∈ tables_1_1 ++ (tables_1_2 ++ (tables_1_3 ++ tables_1_4)) from (List.mem_append_left _ (List.mem_of_getElem? (i := 102) rfl)))) rfl
set_option maxRecDepth 20000 in
theorem nw_5 : (Cond.fieldLinkNest R_LB 207 "LikelyBits$CodedWriter" "low" "I" "LikelyBits") ∈ NW := inNW (List.mem_append_right _ (show _ ∈ tables_1_1 ++ (tables_1_2 ++ (tables_1_3 ++ tables_1_4)) from (List.mem_append_left _ (List.mem_of_getElem? (i := 78) rfl)))) rfl
set_option maxRecDepth 20000 in
theorem nw_6 : (Cond.fieldLinkNest R_LB 211 "LikelyBits$CodedWriter" "size" "I" "LikelyBits") ∈ NW := inNW (List.mem_append_right _ (show _ ∈ tables_1_1 ++ (tables_1_2 ++ (tables_1_3 ++ tables_1_4)) from (List.mem_append_left _ (List.mem_of_getElem? (i := 80) rfl)))) rfl
set_option maxRecDepth 20000 in
theorem nw_7 : (Cond.fieldLinkNest R_LB 217 "LikelyBits$Source" "came" "I" "LikelyBits") ∈ NW := inNW (List.mem_append_right _ (show _ ∈ tables_1_1 ++ (tables_1_2 ++ (tables_1_3 ++ tables_1_4)) from (List.mem_append_left _ (List.mem_of_getElem? (i := 118) rfl)))) rfl
set_option maxRecDepth 20000 in
theorem nw_8 : (Cond.fieldLinkNest R_LB 220 "LikelyBits$CodedReader" "size" "I" "LikelyBits") ∈ NW := inNW (List.mem_append_right _ (show _ ∈ tables_1_1 ++ (tables_1_2 ++ (tables_1_3 ++ tables_1_4)) from (List.mem_append_left _ (List.mem_of_getElem? (i := 139) rfl)))) rfl
set_option maxHeartbeats 1000000 in
set_option maxRecDepth 100000 in
theorem c_LB_isContext (l : Launch) (hl9 : l.stackTraces = false) (D : va_G) (k : gK) (x : Int32) : Met l y_LB_isContext (.code y_LB_isContext b_LB_isContext 1 (some .boolean) :: AW) { frames := 0, cells := 0, slots := 0, locals := 0 } (va_Pc [.int x] (GR D k [])) (va_Qi (fun r (_ : Unit) => r = isc x) (fun _ _ => True) (fun _ => False)) 0 0 (fun _ => False) := by
  refine kMetR (ws := []) (by decide) (Nat.le_of_ble_eq_true rfl) (fun p e s m below meth c ls H Cc hP hS hl => ?_)
  obtain ⟨hx, hb, hml, hr, hlk, hown, hts, hK, hE, hin⟩ := Cc
  have hl : lv_has ls 1 [(0, .int x)] := hl
  refine lv_iload_n hx hb d_LB_isContext_0 rfl (lv_at hl 0 rfl) ?_
  refine lv_if_lt (tgt := 14) hx hb d_LB_isContext_1 (by decide) (fun c1 => ?_) (fun c1 => ?_)
  · refine lv_iconst (v := 0) hx hb d_LB_isContext_14 (by decide) ?_
    exact koz hx hb hr hlk hS (Or.inl rfl) (by simp [isc, c1]) (Nat.le_of_ble_eq_true rfl) (Nat.le_of_ble_eq_true rfl) d_LB_isContext_15
  · refine lv_iload_n hx hb d_LB_isContext_4 rfl (lv_at hl 0 rfl) ?_
    refine lv_bipush (v := 19) hx hb d_LB_isContext_5 (by decide) ?_
    refine lv_icmp_ge (tgt := 14) hx hb d_LB_isContext_7 (by decide) (fun c2 => ?_) (fun c2 => ?_)
    · refine lv_iconst (v := 0) hx hb d_LB_isContext_14 (by decide) ?_
      exact koz hx hb hr hlk hS (Or.inl rfl) (by simp [isc, c1, c2]) (Nat.le_of_ble_eq_true rfl) (Nat.le_of_ble_eq_true rfl) d_LB_isContext_15
    · refine lv_iconst (v := 1) hx hb d_LB_isContext_10 (by decide) ?_
      refine lv_goto (tgt := 15) hx hb d_LB_isContext_11 (by decide) ?_
      exact koz hx hb hr hlk hS (Or.inr rfl) (by simp [isc, c1, c2]) (Nat.le_of_ble_eq_true rfl) (Nat.le_of_ble_eq_true rfl) d_LB_isContext_15

set_option maxHeartbeats 1000000 in
set_option maxRecDepth 100000 in
theorem c_LB_fits (l : Launch) (hl9 : l.stackTraces = false) (D : va_G) (k : gK) (x : Int32) (y : Int32) : Met l y_LB_fits (.code y_LB_fits b_LB_fits 2 (some .boolean) :: AW) { frames := 1, cells := 0, slots := 0, locals := 20 } (va_Pc [.int x, .int y] (GR D k [])) (va_Qi (fun r (_ : Unit) => r = fts x y) (fun _ _ => True) (fun _ => False)) 0 0 (fun _ => False) := by
  refine kMetR (ws := []) (by decide) (Nat.le_of_ble_eq_true rfl) (fun p e s m below meth c ls H Cc hP hS hl => ?_)
  obtain ⟨hx, hb, hml, hr, hlk, hown, hts, hK, hE, hin⟩ := Cc
  have hl : lv_has ls 2 [(0, .int x), (1, .int y)] := hl
  refine lv_iload_n hx hb d_LB_fits_0 rfl (lv_at hl 1 rfl) ?_
  refine lv_if_eq (tgt := 17) hx hb d_LB_fits_1 (by decide) (fun c1 => ?_) (fun c1 => ?_)
  · refine lv_iload_n hx hb d_LB_fits_17 rfl (lv_at hl 0 rfl) ?_
    refine kqi (va_runS (As := [.int x]) (rest := []) ⟨hx, hb, hml, hown, hts⟩ (c_LB_isContext l hl9 D k  x ) (cwS 1 hts (gS mw_181 mw_182 mw_183 mw_184) rfl rfl rfl (by decide +kernel) ⟨(Nat.le_of_ble_eq_true rfl), (Nat.le_of_ble_eq_true rfl)⟩) (kPreR (wc := []) hE hK hP hS [] rfl) rfl rfl hl.1 rfl (lv_room (Nat.le_of_ble_eq_true rfl)) d_LB_fits_18 ⟨(Nat.le_of_ble_eq_true rfl), (Nat.le_of_ble_eq_true rfl)⟩) hP hS (fun r2 H locs hw hP hS => ?_)
    replace hw := hw.symm
    subst hw
    exact koz hx hb hr hlk hS (isc_01 x) (by simp [fts, c1]) (Nat.le_of_ble_eq_true rfl) (Nat.le_of_ble_eq_true rfl) d_LB_fits_21
  · refine lv_iload_n hx hb d_LB_fits_4 rfl (lv_at hl 0 rfl) ?_
    refine lv_iconst (v := -1) hx hb d_LB_fits_5 (by decide) ?_
    refine lv_icmp_ne (tgt := 13) hx hb d_LB_fits_6 (by decide) (fun c3 => ?_) (fun c3 => ?_)
    · refine lv_iconst (v := 0) hx hb d_LB_fits_13 (by decide) ?_
      refine lv_goto (tgt := 21) hx hb d_LB_fits_14 (by decide) ?_
      exact koz hx hb hr hlk hS (Or.inl rfl) (by simp [fts, c1, c3]) (Nat.le_of_ble_eq_true rfl) (Nat.le_of_ble_eq_true rfl) d_LB_fits_21
    · refine lv_iconst (v := 1) hx hb d_LB_fits_9 (by decide) ?_
      refine lv_goto (tgt := 21) hx hb d_LB_fits_10 (by decide) ?_
      exact koz hx hb hr hlk hS (Or.inr rfl) (by simp [fts, c1, c3]) (Nat.le_of_ble_eq_true rfl) (Nat.le_of_ble_eq_true rfl) d_LB_fits_21

set_option maxHeartbeats 1000000 in
set_option maxRecDepth 100000 in
theorem c_LB_contextsOf (l : Launch) (hl9 : l.stackTraces = false) (D : va_G) (k : gK) (h0 : Nat) (zr : Nat) (zc : Nat) (yc : Nat) (zs : Nat) (zw : Nat) (zv : Nat) (zt : Nat) (zd : Nat) (ze : Nat) (so : Int32) (sr : Int32) (dr : Int32) (dw : Int32) (x : Int32) (hx9 : x = 0) : Met l y_LB_contextsOf (.code y_LB_contextsOf b_LB_contextsOf 2 (some (.object "LikelyBits$Contexts")) :: AW) { frames := 0, cells := 0, slots := 0, locals := 0 } (va_Pc [.ref h0, .int x] (GR D k [(h0, .inr (8, [.ref zr, .ref zc, .ref yc, .ref zs, .ref zw, .ref zv, .ref zt, .ref zd, .ref ze, .int so, .int sr, .int dr, .int dw]))])) (va_Qr (fun (_ : Unit) => True) (fun _ r _ => r = zc) (fun _ => False)) 0 0 (fun _ => False) := by
  refine kMetR (ws := [(h0, .inr (8, [.ref zr, .ref zc, .ref yc, .ref zs, .ref zw, .ref zv, .ref zt, .ref zd, .ref ze, .int so, .int sr, .int dr, .int dw]))]) (by decide) (Nat.le_of_ble_eq_true rfl) (fun p e s m below meth c ls H Cc hP hS hl => ?_)
  obtain ⟨hx, hb, hml, hr, hlk, hown, hts, hK, hE, hin⟩ := Cc
  have hl : lv_has ls 2 [(0, .ref h0), (1, .int x)] := hl
  refine lv_iload_n hx hb d_LB_contextsOf_0 rfl (lv_at hl 1 rfl) ?_
  refine lv_if_eq (tgt := 11) hx hb d_LB_contextsOf_1 (by decide) (fun c1 => ?_) (fun c1 => ?_)
  · refine lv_aload_n hx hb d_LB_contextsOf_11 rfl (lv_at hl 0 rfl) ?_
    refine va_get (D := D) (ci := 8) (v := .ref zc) (C := R_LB) (T := T_LB) (N := 13) hx hb hts inw_LB hown hK hP 0 rfl rfl 1 (by decide) (hts (.fieldLink R_LB 19 "LikelyBits" "writerContexts" "LLikelyBits$Contexts;") mw_185) (fun _ h9 => h9) rfl d_LB_contextsOf_12 ?_
    exact kor hx hb hr hlk hS rfl (Nat.le_of_ble_eq_true rfl) (Nat.le_of_ble_eq_true rfl) d_LB_contextsOf_15
  · exact absurd hx9 c1

set_option maxHeartbeats 1000000 in
set_option maxRecDepth 100000 in
theorem c_LB_contextsOf1 (l : Launch) (hl9 : l.stackTraces = false) (D : va_G) (k : gK) (h0 : Nat) (zr : Nat) (zc : Nat) (yc : Nat) (zs : Nat) (zw : Nat) (zv : Nat) (zt : Nat) (zd : Nat) (ze : Nat) (so : Int32) (sr : Int32) (dr : Int32) (dw : Int32) (x : Int32) (hx9 : ¬ x = 0) : Met l y_LB_contextsOf (.code y_LB_contextsOf b_LB_contextsOf 2 (some (.object "LikelyBits$Contexts")) :: AW) { frames := 0, cells := 0, slots := 0, locals := 0 } (va_Pc [.ref h0, .int x] (GR D k [(h0, .inr (8, [.ref zr, .ref zc, .ref yc, .ref zs, .ref zw, .ref zv, .ref zt, .ref zd, .ref ze, .int so, .int sr, .int dr, .int dw]))])) (va_Qr (fun (_ : Unit) => True) (fun _ r _ => r = yc) (fun _ => False)) 0 0 (fun _ => False) := by
  refine kMetR (ws := [(h0, .inr (8, [.ref zr, .ref zc, .ref yc, .ref zs, .ref zw, .ref zv, .ref zt, .ref zd, .ref ze, .int so, .int sr, .int dr, .int dw]))]) (by decide) (Nat.le_of_ble_eq_true rfl) (fun p e s m below meth c ls H Cc hP hS hl => ?_)
  obtain ⟨hx, hb, hml, hr, hlk, hown, hts, hK, hE, hin⟩ := Cc
  have hl : lv_has ls 2 [(0, .ref h0), (1, .int x)] := hl
  refine lv_iload_n hx hb d_LB_contextsOf_0 rfl (lv_at hl 1 rfl) ?_
  refine lv_if_eq (tgt := 11) hx hb d_LB_contextsOf_1 (by decide) (fun c1 => ?_) (fun c1 => ?_)
  · exact absurd c1 hx9
  · refine lv_aload_n hx hb d_LB_contextsOf_4 rfl (lv_at hl 0 rfl) ?_
    refine va_get (D := D) (ci := 8) (v := .ref yc) (C := R_LB) (T := T_LB) (N := 13) hx hb hts inw_LB hown hK hP 0 rfl rfl 2 (by decide) (hts (.fieldLink R_LB 23 "LikelyBits" "readerContexts" "LLikelyBits$Contexts;") mw_186) (fun _ h9 => h9) rfl d_LB_contextsOf_5 ?_
    refine lv_goto (tgt := 15) hx hb d_LB_contextsOf_8 (by decide) ?_
    exact kor hx hb hr hlk hS rfl (Nat.le_of_ble_eq_true rfl) (Nat.le_of_ble_eq_true rfl) d_LB_contextsOf_15

set_option maxHeartbeats 1000000 in
set_option maxRecDepth 100000 in
theorem c_LB_roomOf (l : Launch) (hl9 : l.stackTraces = false) (D : va_G) (k : gK) (h0 zr za zc zf zg yc yf yg zs zw zv zt zd ze : Nat) (so : Int32) (sr : Int32) (dr : Int32) (dw : Int32) (n : Nat) (f : Nat → Int32) (u : Int32) (L : List Int32) (sf : Nat → Int32) (lf : Nat → Int32) (tf : Nat → Int32) (mf : Nat → Int32) (a : Int32) (lo : Int32) (sz : Int32) (rm : Int32) (rw : Int32) (pl : Int32) (ln : Int32) (cm : Int32) (la : Int32) (va : Int32) (sy : Int32) (ry : Int32) (lb : Int32) (le : Int32) : Met l y_LB_roomOfSegment (.code y_LB_roomOfSegment b_LB_roomOfSegment 1 (some .int) :: AW) { frames := 0, cells := 0, slots := 0, locals := 0 } (va_Pc [.ref h0] (GR D k [(h0, .inr (8, [.ref zr, .ref zc, .ref yc, .ref zs, .ref zw, .ref zv, .ref zt, .ref zd, .ref ze, .int so, .int sr, .int dr, .int dw])), (zr, .inr (0, [.ref za, .int u])), (za, .inl (k.1, n, .inl f)), (zc, .inr (1, [.ref zf, .ref zg])), (zf, .inl (k.1, 19, .inl sf)), (zg, .inl (k.1, 19, .inl lf)), (yc, .inr (1, [.ref yf, .ref yg])), (yf, .inl (k.1, 19, .inl tf)), (yg, .inl (k.1, 19, .inl mf)), (zs, .inr (2, [.ref zr, .int a])), (zw, .inr (4, [.ref zs, .ref zc, .int lo, .int sz, .int rm])), (zv, .inr (6, [.ref zs, .int rw])), (zt, .inr (3, [.ref zr, .int pl, .int ln, .int cm])), (zd, .inr (5, [.ref zt, .ref yc, .int la, .int va, .int sy, .int ry])), (ze, .inr (7, [.ref zt, .int lb, .int le]))])) (va_Qi (fun r (_ : Unit) => r = rmo sr rm rw) (fun _ _ => True) (fun _ => False)) 0 0 (fun _ => False) := by
  refine kMetR (ws := [(h0, .inr (8, [.ref zr, .ref zc, .ref yc, .ref zs, .ref zw, .ref zv, .ref zt, .ref zd, .ref ze, .int so, .int sr, .int dr, .int dw])), (zr, .inr (0, [.ref za, .int u])), (za, .inl (k.1, n, .inl f)), (zc, .inr (1, [.ref zf, .ref zg])), (zf, .inl (k.1, 19, .inl sf)), (zg, .inl (k.1, 19, .inl lf)), (yc, .inr (1, [.ref yf, .ref yg])), (yf, .inl (k.1, 19, .inl tf)), (yg, .inl (k.1, 19, .inl mf)), (zs, .inr (2, [.ref zr, .int a])), (zw, .inr (4, [.ref zs, .ref zc, .int lo, .int sz, .int rm])), (zv, .inr (6, [.ref zs, .int rw])), (zt, .inr (3, [.ref zr, .int pl, .int ln, .int cm])), (zd, .inr (5, [.ref zt, .ref yc, .int la, .int va, .int sy, .int ry])), (ze, .inr (7, [.ref zt, .int lb, .int le]))]) (by decide) (Nat.le_of_ble_eq_true rfl) (fun p e s m below meth c ls H Cc hP hS hl => ?_)
  obtain ⟨hx, hb, hml, hr, hlk, hown, hts, hK, hE, hin⟩ := Cc
  have hl : lv_has ls 1 [(0, .ref h0)] := hl
  refine lv_aload_n hx hb d_LB_roomOfSegment_0 rfl (lv_at hl 0 rfl) ?_
  refine va_get (D := D) (ci := 8) (v := .int sr) (C := R_LB) (T := T_LB) (N := 13) hx hb hts inw_LB hown hK hP 0 rfl rfl 10 (by decide) (hts (.fieldLink R_LB 147 "LikelyBits" "segmentRaw" "Z") mw_187) (fun _ h9 => h9) rfl d_LB_roomOfSegment_1 ?_
  refine lv_if_eq (tgt := 17) hx hb d_LB_roomOfSegment_4 (by decide) (fun c1 => ?_) (fun c1 => ?_)
  · refine lv_aload_n hx hb d_LB_roomOfSegment_17 rfl (lv_at hl 0 rfl) ?_
    refine va_get (D := D) (ci := 8) (v := .ref zw) (C := R_LB) (T := T_LB) (N := 13) hx hb hts inw_LB hown hK hP 0 rfl rfl 4 (by decide) (hts (.fieldLink R_LB 40 "LikelyBits" "codedWriter" "LLikelyBits$CodedWriter;") mw_188) (fun _ h9 => h9) rfl d_LB_roomOfSegment_18 ?_
    refine va_getN (D := D) (ci := 4) (v := .int rm) (C := R_CWr) (T := T_CWr) (N := 5) hx hb hts inw_CWr hown hK hP 10 rfl rfl 4 (by decide) (hE.nest (.fieldLinkNest R_LB 224 "LikelyBits$CodedWriter" "room" "I" "LikelyBits") nw_3) (fun _ h9 => h9) rfl d_LB_roomOfSegment_21 ?_
    exact koi hx hb hr hlk hS (by simp [rmo, c1]) (Nat.le_of_ble_eq_true rfl) (Nat.le_of_ble_eq_true rfl) d_LB_roomOfSegment_24
  · refine lv_aload_n hx hb d_LB_roomOfSegment_7 rfl (lv_at hl 0 rfl) ?_
    refine va_get (D := D) (ci := 8) (v := .ref zv) (C := R_LB) (T := T_LB) (N := 13) hx hb hts inw_LB hown hK hP 0 rfl rfl 5 (by decide) (hts (.fieldLink R_LB 49 "LikelyBits" "rawWriter" "LLikelyBits$RawWriter;") mw_189) (fun _ h9 => h9) rfl d_LB_roomOfSegment_8 ?_
    refine va_getN (D := D) (ci := 6) (v := .int rw) (C := R_RWr) (T := T_RWr) (N := 2) hx hb hts inw_RWr hown hK hP 11 rfl rfl 1 (by decide) (hE.nest (.fieldLinkNest R_LB 221 "LikelyBits$RawWriter" "room" "I" "LikelyBits") nw_4) (fun _ h9 => h9) rfl d_LB_roomOfSegment_11 ?_
    refine lv_goto (tgt := 24) hx hb d_LB_roomOfSegment_14 (by decide) ?_
    exact koi hx hb hr hlk hS (by simp [rmo, c1]) (Nat.le_of_ble_eq_true rfl) (Nat.le_of_ble_eq_true rfl) d_LB_roomOfSegment_24

set_option maxHeartbeats 1000000 in
set_option maxRecDepth 100000 in
theorem c_LB_register (l : Launch) (hl9 : l.stackTraces = false) (D : va_G) (k : gK) (h0 zr za zc zf zg yc yf yg zs zw zv zt zd ze : Nat) (so : Int32) (sr : Int32) (dr : Int32) (dw : Int32) (n : Nat) (f : Nat → Int32) (u : Int32) (L : List Int32) (sf : Nat → Int32) (lf : Nat → Int32) (tf : Nat → Int32) (mf : Nat → Int32) (a : Int32) (lo : Int32) (sz : Int32) (rm : Int32) (rw : Int32) (pl : Int32) (ln : Int32) (cm : Int32) (la : Int32) (va : Int32) (sy : Int32) (ry : Int32) (lb : Int32) (le : Int32) (x : Int32) : Met l y_LB_register (.code y_LB_register b_LB_register 2 (some .int) :: AW) { frames := 1, cells := 0, slots := 0, locals := 20 } (va_Pc [.ref h0, .int x] (GR D k [(h0, .inr (8, [.ref zr, .ref zc, .ref yc, .ref zs, .ref zw, .ref zv, .ref zt, .ref zd, .ref ze, .int so, .int sr, .int dr, .int dw])), (zr, .inr (0, [.ref za, .int u])), (za, .inl (k.1, n, .inl f)), (zc, .inr (1, [.ref zf, .ref zg])), (zf, .inl (k.1, 19, .inl sf)), (zg, .inl (k.1, 19, .inl lf)), (yc, .inr (1, [.ref yf, .ref yg])), (yf, .inl (k.1, 19, .inl tf)), (yg, .inl (k.1, 19, .inl mf)), (zs, .inr (2, [.ref zr, .int a])), (zw, .inr (4, [.ref zs, .ref zc, .int lo, .int sz, .int rm])), (zv, .inr (6, [.ref zs, .int rw])), (zt, .inr (3, [.ref zr, .int pl, .int ln, .int cm])), (zd, .inr (5, [.ref zt, .ref yc, .int la, .int va, .int sy, .int ry])), (ze, .inr (7, [.ref zt, .int lb, .int le]))])) (va_Qi (fun r (_ : Unit) => r = rgs x so sr dr dw lo sz rm rw cm sy) (fun _ _ => True) (fun _ => False)) 0 0 (fun _ => False) := by
  refine kMetR (ws := [(h0, .inr (8, [.ref zr, .ref zc, .ref yc, .ref zs, .ref zw, .ref zv, .ref zt, .ref zd, .ref ze, .int so, .int sr, .int dr, .int dw])), (zr, .inr (0, [.ref za, .int u])), (za, .inl (k.1, n, .inl f)), (zc, .inr (1, [.ref zf, .ref zg])), (zf, .inl (k.1, 19, .inl sf)), (zg, .inl (k.1, 19, .inl lf)), (yc, .inr (1, [.ref yf, .ref yg])), (yf, .inl (k.1, 19, .inl tf)), (yg, .inl (k.1, 19, .inl mf)), (zs, .inr (2, [.ref zr, .int a])), (zw, .inr (4, [.ref zs, .ref zc, .int lo, .int sz, .int rm])), (zv, .inr (6, [.ref zs, .int rw])), (zt, .inr (3, [.ref zr, .int pl, .int ln, .int cm])), (zd, .inr (5, [.ref zt, .ref yc, .int la, .int va, .int sy, .int ry])), (ze, .inr (7, [.ref zt, .int lb, .int le]))]) (by decide) (Nat.le_of_ble_eq_true rfl) (fun p e s m below meth c ls H Cc hP hS hl => ?_)
  obtain ⟨hx, hb, hml, hr, hlk, hown, hts, hK, hE, hin⟩ := Cc
  have hl : lv_has ls 2 [(0, .ref h0), (1, .int x)] := hl
  refine lv_iload_n hx hb d_LB_register_0 rfl (lv_at hl 1 rfl) ?_
  by_cases c1 : x = 0
  · refine lv_tableIn (tgt := 36) hx hb d_LB_register_1 (by rw [c1]; decide) (by rw [c1]; decide) (by rw [c1]; rfl) (by decide) ?_
    refine lv_aload_n hx hb d_LB_register_36 rfl (lv_at hl 0 rfl) ?_
    refine va_get (D := D) (ci := 8) (v := .int so) (C := R_LB) (T := T_LB) (N := 13) hx hb hts inw_LB hown hK hP 0 rfl rfl 9 (by decide) (hts (.fieldLink R_LB 81 "LikelyBits" "segmentOpen" "Z") mw_190) (fun _ h9 => h9) rfl d_LB_register_37 ?_
    refine lv_if_eq (tgt := 60) hx hb d_LB_register_40 (by decide) (fun c2 => ?_) (fun c2 => ?_)
    · refine lv_iconst (v := -1) hx hb d_LB_register_60 (by decide) ?_
      exact koi hx hb hr hlk hS (by simp [rgs, c1, c2]) (Nat.le_of_ble_eq_true rfl) (Nat.le_of_ble_eq_true rfl) d_LB_register_61
    · refine lv_aload_n hx hb d_LB_register_43 rfl (lv_at hl 0 rfl) ?_
      refine va_get (D := D) (ci := 8) (v := .int sr) (C := R_LB) (T := T_LB) (N := 13) hx hb hts inw_LB hown hK hP 0 rfl rfl 10 (by decide) (hts (.fieldLink R_LB 147 "LikelyBits" "segmentRaw" "Z") mw_187) (fun _ h9 => h9) rfl d_LB_register_44 ?_
      refine lv_if_ne (tgt := 60) hx hb d_LB_register_47 (by decide) (fun c3 => ?_) (fun c3 => ?_)
      · refine lv_iconst (v := -1) hx hb d_LB_register_60 (by decide) ?_
        exact koi hx hb hr hlk hS (by simp [rgs, c1, c2, c3]) (Nat.le_of_ble_eq_true rfl) (Nat.le_of_ble_eq_true rfl) d_LB_register_61
      · refine lv_aload_n hx hb d_LB_register_50 rfl (lv_at hl 0 rfl) ?_
        refine va_get (D := D) (ci := 8) (v := .ref zw) (C := R_LB) (T := T_LB) (N := 13) hx hb hts inw_LB hown hK hP 0 rfl rfl 4 (by decide) (hts (.fieldLink R_LB 40 "LikelyBits" "codedWriter" "LLikelyBits$CodedWriter;") mw_188) (fun _ h9 => h9) rfl d_LB_register_51 ?_
        refine va_getN (D := D) (ci := 4) (v := .int lo) (C := R_CWr) (T := T_CWr) (N := 5) hx hb hts inw_CWr hown hK hP 10 rfl rfl 2 (by decide) (hE.nest (.fieldLinkNest R_LB 207 "LikelyBits$CodedWriter" "low" "I" "LikelyBits") nw_5) (fun _ h9 => h9) rfl d_LB_register_54 ?_
        refine lv_goto (tgt := 61) hx hb d_LB_register_57 (by decide) ?_
        exact koi hx hb hr hlk hS (by simp [rgs, c1, c2, c3]) (Nat.le_of_ble_eq_true rfl) (Nat.le_of_ble_eq_true rfl) d_LB_register_61
  by_cases c4 : x = 1
  · refine lv_tableIn (tgt := 62) hx hb d_LB_register_1 (by rw [c4]; decide) (by rw [c4]; decide) (by rw [c4]; rfl) (by decide) ?_
    refine lv_aload_n hx hb d_LB_register_62 rfl (lv_at hl 0 rfl) ?_
    refine va_get (D := D) (ci := 8) (v := .int so) (C := R_LB) (T := T_LB) (N := 13) hx hb hts inw_LB hown hK hP 0 rfl rfl 9 (by decide) (hts (.fieldLink R_LB 81 "LikelyBits" "segmentOpen" "Z") mw_190) (fun _ h9 => h9) rfl d_LB_register_63 ?_
    refine lv_if_eq (tgt := 86) hx hb d_LB_register_66 (by decide) (fun c5 => ?_) (fun c5 => ?_)
    · refine lv_iconst (v := -1) hx hb d_LB_register_86 (by decide) ?_
      exact koi hx hb hr hlk hS (by simp [rgs, c1, c4, c5]) (Nat.le_of_ble_eq_true rfl) (Nat.le_of_ble_eq_true rfl) d_LB_register_87
    · refine lv_aload_n hx hb d_LB_register_69 rfl (lv_at hl 0 rfl) ?_
      refine va_get (D := D) (ci := 8) (v := .int sr) (C := R_LB) (T := T_LB) (N := 13) hx hb hts inw_LB hown hK hP 0 rfl rfl 10 (by decide) (hts (.fieldLink R_LB 147 "LikelyBits" "segmentRaw" "Z") mw_187) (fun _ h9 => h9) rfl d_LB_register_70 ?_
      refine lv_if_ne (tgt := 86) hx hb d_LB_register_73 (by decide) (fun c6 => ?_) (fun c6 => ?_)
      · refine lv_iconst (v := -1) hx hb d_LB_register_86 (by decide) ?_
        exact koi hx hb hr hlk hS (by simp [rgs, c1, c4, c5, c6]) (Nat.le_of_ble_eq_true rfl) (Nat.le_of_ble_eq_true rfl) d_LB_register_87
      · refine lv_aload_n hx hb d_LB_register_76 rfl (lv_at hl 0 rfl) ?_
        refine va_get (D := D) (ci := 8) (v := .ref zw) (C := R_LB) (T := T_LB) (N := 13) hx hb hts inw_LB hown hK hP 0 rfl rfl 4 (by decide) (hts (.fieldLink R_LB 40 "LikelyBits" "codedWriter" "LLikelyBits$CodedWriter;") mw_188) (fun _ h9 => h9) rfl d_LB_register_77 ?_
        refine va_getN (D := D) (ci := 4) (v := .int sz) (C := R_CWr) (T := T_CWr) (N := 5) hx hb hts inw_CWr hown hK hP 10 rfl rfl 3 (by decide) (hE.nest (.fieldLinkNest R_LB 211 "LikelyBits$CodedWriter" "size" "I" "LikelyBits") nw_6) (fun _ h9 => h9) rfl d_LB_register_80 ?_
        refine lv_goto (tgt := 87) hx hb d_LB_register_83 (by decide) ?_
        exact koi hx hb hr hlk hS (by simp [rgs, c1, c4, c5, c6]) (Nat.le_of_ble_eq_true rfl) (Nat.le_of_ble_eq_true rfl) d_LB_register_87
  by_cases c7 : x = 2
  · refine lv_tableIn (tgt := 88) hx hb d_LB_register_1 (by rw [c7]; decide) (by rw [c7]; decide) (by rw [c7]; rfl) (by decide) ?_
    refine lv_aload_n hx hb d_LB_register_88 rfl (lv_at hl 0 rfl) ?_
    refine va_get (D := D) (ci := 8) (v := .int so) (C := R_LB) (T := T_LB) (N := 13) hx hb hts inw_LB hown hK hP 0 rfl rfl 9 (by decide) (hts (.fieldLink R_LB 81 "LikelyBits" "segmentOpen" "Z") mw_190) (fun _ h9 => h9) rfl d_LB_register_89 ?_
    refine lv_if_eq (tgt := 102) hx hb d_LB_register_92 (by decide) (fun c8 => ?_) (fun c8 => ?_)
    · refine lv_iconst (v := -1) hx hb d_LB_register_102 (by decide) ?_
      exact koi hx hb hr hlk hS (by simp [rgs, c1, c4, c7, c8]) (Nat.le_of_ble_eq_true rfl) (Nat.le_of_ble_eq_true rfl) d_LB_register_103
    · refine lv_aload_n hx hb d_LB_register_95 rfl (lv_at hl 0 rfl) ?_
      refine kqi (va_runV (As := []) (rest := []) ⟨hx, hb, hml, hown, hts⟩ (c_LB_roomOf l hl9 D k h0 zr za zc zf zg yc yf yg zs zw zv zt zd ze so sr dr dw n f u L sf lf tf mf a lo sz rm rw pl ln cm la va sy ry lb le ) (cwV 0 hts (gV mw_191 mw_192 mw_193 mw_183 mw_194) rfl rfl rfl (by decide +kernel) ⟨(Nat.le_of_ble_eq_true rfl), (Nat.le_of_ble_eq_true rfl)⟩) (kRecv (q := (R_LB, T_LB, 13)) (q0 := 0) (ci := 8) hK hP rfl rfl (kPreR (wc := [(h0, .inr (8, [.ref zr, .ref zc, .ref yc, .ref zs, .ref zw, .ref zv, .ref zt, .ref zd, .ref ze, .int so, .int sr, .int dr, .int dw])), (zr, .inr (0, [.ref za, .int u])), (za, .inl (k.1, n, .inl f)), (zc, .inr (1, [.ref zf, .ref zg])), (zf, .inl (k.1, 19, .inl sf)), (zg, .inl (k.1, 19, .inl lf)), (yc, .inr (1, [.ref yf, .ref yg])), (yf, .inl (k.1, 19, .inl tf)), (yg, .inl (k.1, 19, .inl mf)), (zs, .inr (2, [.ref zr, .int a])), (zw, .inr (4, [.ref zs, .ref zc, .int lo, .int sz, .int rm])), (zv, .inr (6, [.ref zs, .int rw])), (zt, .inr (3, [.ref zr, .int pl, .int ln, .int cm])), (zd, .inr (5, [.ref zt, .ref yc, .int la, .int va, .int sy, .int ry])), (ze, .inr (7, [.ref zt, .int lb, .int le]))]) hE hK hP hS [0, 1, 2, 3, 4, 5, 6, 7, 8, 9, 10, 11, 12, 13, 14] rfl)) rfl rfl hl.1 rfl (lv_room (Nat.le_of_ble_eq_true rfl)) d_LB_register_96 ⟨(Nat.le_of_ble_eq_true rfl), (Nat.le_of_ble_eq_true rfl)⟩) hP hS (fun r9 H locs hw hP hS => ?_)
      replace hw := hw.symm
      subst hw
      refine lv_goto (tgt := 103) hx hb d_LB_register_99 (by decide) ?_
      exact koi hx hb hr hlk hS (by simp [rgs, c1, c4, c7, c8]) (Nat.le_of_ble_eq_true rfl) (Nat.le_of_ble_eq_true rfl) d_LB_register_103
  by_cases c10 : x = 3
  · refine lv_tableIn (tgt := 104) hx hb d_LB_register_1 (by rw [c10]; decide) (by rw [c10]; decide) (by rw [c10]; rfl) (by decide) ?_
    refine lv_aload_n hx hb d_LB_register_104 rfl (lv_at hl 0 rfl) ?_
    refine va_get (D := D) (ci := 8) (v := .int dr) (C := R_LB) (T := T_LB) (N := 13) hx hb hts inw_LB hown hK hP 0 rfl rfl 11 (by decide) (hts (.fieldLink R_LB 85 "LikelyBits" "sourceRead" "Z") mw_195) (fun _ h9 => h9) rfl d_LB_register_105 ?_
    refine lv_if_eq (tgt := 121) hx hb d_LB_register_108 (by decide) (fun c11 => ?_) (fun c11 => ?_)
    · refine lv_iconst (v := -1) hx hb d_LB_register_121 (by decide) ?_
      exact koi hx hb hr hlk hS (by simp [rgs, c1, c4, c7, c10, c11]) (Nat.le_of_ble_eq_true rfl) (Nat.le_of_ble_eq_true rfl) d_LB_register_122
    · refine lv_aload_n hx hb d_LB_register_111 rfl (lv_at hl 0 rfl) ?_
      refine va_get (D := D) (ci := 8) (v := .ref zt) (C := R_LB) (T := T_LB) (N := 13) hx hb hts inw_LB hown hK hP 0 rfl rfl 6 (by decide) (hts (.fieldLink R_LB 56 "LikelyBits" "source" "LLikelyBits$Source;") mw_196) (fun _ h9 => h9) rfl d_LB_register_112 ?_
      refine va_getN (D := D) (ci := 3) (v := .int cm) (C := R_Src) (T := T_Src) (N := 4) hx hb hts inw_Src hown hK hP 12 rfl rfl 3 (by decide) (hE.nest (.fieldLinkNest R_LB 217 "LikelyBits$Source" "came" "I" "LikelyBits") nw_7) (fun _ h9 => h9) rfl d_LB_register_115 ?_
      refine lv_goto (tgt := 122) hx hb d_LB_register_118 (by decide) ?_
      exact koi hx hb hr hlk hS (by simp [rgs, c1, c4, c7, c10, c11]) (Nat.le_of_ble_eq_true rfl) (Nat.le_of_ble_eq_true rfl) d_LB_register_122
  by_cases c12 : x = 4
  · refine lv_tableIn (tgt := 123) hx hb d_LB_register_1 (by rw [c12]; decide) (by rw [c12]; decide) (by rw [c12]; rfl) (by decide) ?_
    refine lv_aload_n hx hb d_LB_register_123 rfl (lv_at hl 0 rfl) ?_
    refine va_get (D := D) (ci := 8) (v := .int dr) (C := R_LB) (T := T_LB) (N := 13) hx hb hts inw_LB hown hK hP 0 rfl rfl 11 (by decide) (hts (.fieldLink R_LB 85 "LikelyBits" "sourceRead" "Z") mw_195) (fun _ h9 => h9) rfl d_LB_register_124 ?_
    refine lv_if_eq (tgt := 147) hx hb d_LB_register_127 (by decide) (fun c13 => ?_) (fun c13 => ?_)
    · refine lv_iconst (v := -1) hx hb d_LB_register_147 (by decide) ?_
      exact koi hx hb hr hlk hS (by simp [rgs, c1, c4, c7, c10, c12, c13]) (Nat.le_of_ble_eq_true rfl) (Nat.le_of_ble_eq_true rfl) d_LB_register_148
    · refine lv_aload_n hx hb d_LB_register_130 rfl (lv_at hl 0 rfl) ?_
      refine va_get (D := D) (ci := 8) (v := .int dw) (C := R_LB) (T := T_LB) (N := 13) hx hb hts inw_LB hown hK hP 0 rfl rfl 12 (by decide) (hts (.fieldLink R_LB 193 "LikelyBits" "sourceRaw" "Z") mw_197) (fun _ h9 => h9) rfl d_LB_register_131 ?_
      refine lv_if_ne (tgt := 147) hx hb d_LB_register_134 (by decide) (fun c14 => ?_) (fun c14 => ?_)
      · refine lv_iconst (v := -1) hx hb d_LB_register_147 (by decide) ?_
        exact koi hx hb hr hlk hS (by simp [rgs, c1, c4, c7, c10, c12, c13, c14]) (Nat.le_of_ble_eq_true rfl) (Nat.le_of_ble_eq_true rfl) d_LB_register_148
      · refine lv_aload_n hx hb d_LB_register_137 rfl (lv_at hl 0 rfl) ?_
        refine va_get (D := D) (ci := 8) (v := .ref zd) (C := R_LB) (T := T_LB) (N := 13) hx hb hts inw_LB hown hK hP 0 rfl rfl 7 (by decide) (hts (.fieldLink R_LB 65 "LikelyBits" "codedReader" "LLikelyBits$CodedReader;") mw_198) (fun _ h9 => h9) rfl d_LB_register_138 ?_
        refine va_getN (D := D) (ci := 5) (v := .int sy) (C := R_CRd) (T := T_CRd) (N := 6) hx hb hts inw_CRd hown hK hP 13 rfl rfl 4 (by decide) (hE.nest (.fieldLinkNest R_LB 220 "LikelyBits$CodedReader" "size" "I" "LikelyBits") nw_8) (fun _ h9 => h9) rfl d_LB_register_141 ?_
        refine lv_goto (tgt := 148) hx hb d_LB_register_144 (by decide) ?_
        exact koi hx hb hr hlk hS (by simp [rgs, c1, c4, c7, c10, c12, c13, c14]) (Nat.le_of_ble_eq_true rfl) (Nat.le_of_ble_eq_true rfl) d_LB_register_148
  refine lv_tableOut (tgt := 149) hx hb d_LB_register_1 (by have n0 := lv_neT (a := 0) c1 rfl; have n1 := lv_neT (a := 1) c4 rfl; have n2 := lv_neT (a := 2) c7 rfl; have n3 := lv_neT (a := 3) c10 rfl; have n4 := lv_neT (a := 4) c12 rfl; omega) (by decide) ?_
  refine lv_iconst (v := -1) hx hb d_LB_register_149 (by decide) ?_
  exact koi hx hb hr hlk hS (by simp [rgs, c1, c4, c7, c10, c12]) (Nat.le_of_ble_eq_true rfl) (Nat.le_of_ble_eq_true rfl) d_LB_register_150

def wo_LB_clear (k : gK) (h0 zr za zc zf zg yc yf yg zs zw zv zt zd ze : Nat) (so : Int32) (sr : Int32) (dr : Int32) (dw : Int32) (n : Nat) (f : Nat → Int32) (u : Int32) (L : List Int32) (sf : Nat → Int32) (lf : Nat → Int32) (tf : Nat → Int32) (mf : Nat → Int32) (a : Int32) (lo : Int32) (sz : Int32) (rm : Int32) (rw : Int32) (pl : Int32) (ln : Int32) (cm : Int32) (la : Int32) (va : Int32) (sy : Int32) (ry : Int32) (lb : Int32) (le : Int32) (zz : Int32) (uu : Unit) : va_W := match zz, uu with
  | u2, _ => [(h0, .inr (8, [.ref zr, .ref zc, .ref yc, .ref zs, .ref zw, .ref zv, .ref zt, .ref zd, .ref ze, .int 0, .int sr, .int 0, .int dw])), (zr, .inr (0, [.ref za, .int u2])), (za, .inl (k.1, n, .inl f)), (zc, .inr (1, [.ref zf, .ref zg])), (zf, .inl (k.1, 19, .inl sf)), (zg, .inl (k.1, 19, .inl lf)), (yc, .inr (1, [.ref yf, .ref yg])), (yf, .inl (k.1, 19, .inl tf)), (yg, .inl (k.1, 19, .inl mf)), (zs, .inr (2, [.ref zr, .int a])), (zw, .inr (4, [.ref zs, .ref zc, .int lo, .int sz, .int rm])), (zv, .inr (6, [.ref zs, .int rw])), (zt, .inr (3, [.ref zr, .int pl, .int ln, .int cm])), (zd, .inr (5, [.ref zt, .ref yc, .int la, .int va, .int sy, .int ry])), (ze, .inr (7, [.ref zt, .int lb, .int le]))]
def ex_LB_clear (k : gK) (h0 zr za zc zf zg yc yf yg zs zw zv zt zd ze : Nat) (so : Int32) (sr : Int32) (dr : Int32) (dw : Int32) (n : Nat) (f : Nat → Int32) (u : Int32) (L : List Int32) (sf : Nat → Int32) (lf : Nat → Int32) (tf : Nat → Int32) (mf : Nat → Int32) (a : Int32) (lo : Int32) (sz : Int32) (rm : Int32) (rw : Int32) (pl : Int32) (ln : Int32) (cm : Int32) (la : Int32) (va : Int32) (sy : Int32) (ry : Int32) (lb : Int32) (le : Int32) (zz : Int32) (uu : Unit) : Prop := match zz, uu with
  | u2, _ => row_ok n f u2 []
def po_LB_clear (k : gK) (h0 zr za zc zf zg yc yf yg zs zw zv zt zd ze : Nat) (so : Int32) (sr : Int32) (dr : Int32) (dw : Int32) (n : Nat) (f : Nat → Int32) (u : Int32) (L : List Int32) (sf : Nat → Int32) (lf : Nat → Int32) (tf : Nat → Int32) (mf : Nat → Int32) (a : Int32) (lo : Int32) (sz : Int32) (rm : Int32) (rw : Int32) (pl : Int32) (ln : Int32) (cm : Int32) (la : Int32) (va : Int32) (sy : Int32) (ry : Int32) (lb : Int32) (le : Int32) (uu : Unit) : Prop := match uu with
  | _ => True
def qc_LB_clear (D : va_G) (k : gK) (h0 zr za zc zf zg yc yf yg zs zw zv zt zd ze : Nat) (so : Int32) (sr : Int32) (dr : Int32) (dw : Int32) (n : Nat) (f : Nat → Int32) (u : Int32) (L : List Int32) (sf : Nat → Int32) (lf : Nat → Int32) (tf : Nat → Int32) (mf : Nat → Int32) (a : Int32) (lo : Int32) (sz : Int32) (rm : Int32) (rw : Int32) (pl : Int32) (ln : Int32) (cm : Int32) (la : Int32) (va : Int32) (sy : Int32) (ry : Int32) (lb : Int32) (le : Int32) (A : Nat → Prop) : Array Value → State → Outcome → State → Prop := va_Qv (po_LB_clear k h0 zr za zc zf zg yc yf yg zs zw zv zt zd ze so sr dr dw n f u L sf lf tf mf a lo sz rm rw pl ln cm la va sy ry lb le) (fun uu t => ∃ zz, ex_LB_clear k h0 zr za zc zf zg yc yf yg zs zw zv zt zd ze so sr dr dw n f u L sf lf tf mf a lo sz rm rw pl ln cm la va sy ry lb le zz uu ∧ GP D A (wo_LB_clear k h0 zr za zc zf zg yc yf yg zs zw zv zt zd ze so sr dr dw n f u L sf lf tf mf a lo sz rm rw pl ln cm la va sy ry lb le zz uu) t) A
set_option maxHeartbeats 1000000 in
set_option maxRecDepth 100000 in
theorem c_LB_clear (l : Launch) (hl9 : l.stackTraces = false) (D : va_G) (k : gK) (h0 zr za zc zf zg yc yf yg zs zw zv zt zd ze : Nat) (zsz : Nat) (so : Int32) (sr : Int32) (dr : Int32) (dw : Int32) (n : Nat) (f : Nat → Int32) (u : Int32) (L : List Int32) (sf : Nat → Int32) (lf : Nat → Int32) (tf : Nat → Int32) (mf : Nat → Int32) (a : Int32) (lo : Int32) (sz : Int32) (rm : Int32) (rw : Int32) (pl : Int32) (ln : Int32) (cm : Int32) (la : Int32) (va : Int32) (sy : Int32) (ry : Int32) (lb : Int32) (le : Int32) (hR : row_ok n f u L) : Met l y_LB_clear (.code y_LB_clear b_LB_clear 1 none :: AW) ({ frames := 1, cells := 0, slots := 0, locals := 20 }) (va_Pc [.ref h0] (GG D k [(h0, .inr (8, [.ref zr, .ref zc, .ref yc, .ref zs, .ref zw, .ref zv, .ref zt, .ref zd, .ref ze, .int so, .int sr, .int dr, .int dw])), (zr, .inr (0, [.ref za, .int u])), (za, .inl (k.1, n, .inl f)), (zc, .inr (1, [.ref zf, .ref zg])), (zf, .inl (k.1, 19, .inl sf)), (zg, .inl (k.1, 19, .inl lf)), (yc, .inr (1, [.ref yf, .ref yg])), (yf, .inl (k.1, 19, .inl tf)), (yg, .inl (k.1, 19, .inl mf)), (zs, .inr (2, [.ref zr, .int a])), (zw, .inr (4, [.ref zs, .ref zc, .int lo, .int sz, .int rm])), (zv, .inr (6, [.ref zs, .int rw])), (zt, .inr (3, [.ref zr, .int pl, .int ln, .int cm])), (zd, .inr (5, [.ref zt, .ref yc, .int la, .int va, .int sy, .int ry])), (ze, .inr (7, [.ref zt, .int lb, .int le]))] zsz)) (qc_LB_clear D k h0 zr za zc zf zg yc yf yg zs zw zv zt zd ze so sr dr dw n f u L sf lf tf mf a lo sz rm rw pl ln cm la va sy ry lb le (va_A [(h0, .inr (8, [.ref zr, .ref zc, .ref yc, .ref zs, .ref zw, .ref zv, .ref zt, .ref zd, .ref ze, .int so, .int sr, .int dr, .int dw])), (zr, .inr (0, [.ref za, .int u])), (za, .inl (k.1, n, .inl f)), (zc, .inr (1, [.ref zf, .ref zg])), (zf, .inl (k.1, 19, .inl sf)), (zg, .inl (k.1, 19, .inl lf)), (yc, .inr (1, [.ref yf, .ref yg])), (yf, .inl (k.1, 19, .inl tf)), (yg, .inl (k.1, 19, .inl mf)), (zs, .inr (2, [.ref zr, .int a])), (zw, .inr (4, [.ref zs, .ref zc, .int lo, .int sz, .int rm])), (zv, .inr (6, [.ref zs, .int rw])), (zt, .inr (3, [.ref zr, .int pl, .int ln, .int cm])), (zd, .inr (5, [.ref zt, .ref yc, .int la, .int va, .int sy, .int ry])), (ze, .inr (7, [.ref zt, .int lb, .int le]))] zsz)) 0 0 (va_A [(h0, .inr (8, [.ref zr, .ref zc, .ref yc, .ref zs, .ref zw, .ref zv, .ref zt, .ref zd, .ref ze, .int so, .int sr, .int dr, .int dw])), (zr, .inr (0, [.ref za, .int u])), (za, .inl (k.1, n, .inl f)), (zc, .inr (1, [.ref zf, .ref zg])), (zf, .inl (k.1, 19, .inl sf)), (zg, .inl (k.1, 19, .inl lf)), (yc, .inr (1, [.ref yf, .ref yg])), (yf, .inl (k.1, 19, .inl tf)), (yg, .inl (k.1, 19, .inl mf)), (zs, .inr (2, [.ref zr, .int a])), (zw, .inr (4, [.ref zs, .ref zc, .int lo, .int sz, .int rm])), (zv, .inr (6, [.ref zs, .int rw])), (zt, .inr (3, [.ref zr, .int pl, .int ln, .int cm])), (zd, .inr (5, [.ref zt, .ref yc, .int la, .int va, .int sy, .int ry])), (ze, .inr (7, [.ref zt, .int lb, .int le]))] zsz) := by
  refine kMet (ws := [(h0, .inr (8, [.ref zr, .ref zc, .ref yc, .ref zs, .ref zw, .ref zv, .ref zt, .ref zd, .ref ze, .int so, .int sr, .int dr, .int dw])), (zr, .inr (0, [.ref za, .int u])), (za, .inl (k.1, n, .inl f)), (zc, .inr (1, [.ref zf, .ref zg])), (zf, .inl (k.1, 19, .inl sf)), (zg, .inl (k.1, 19, .inl lf)), (yc, .inr (1, [.ref yf, .ref yg])), (yf, .inl (k.1, 19, .inl tf)), (yg, .inl (k.1, 19, .inl mf)), (zs, .inr (2, [.ref zr, .int a])), (zw, .inr (4, [.ref zs, .ref zc, .int lo, .int sz, .int rm])), (zv, .inr (6, [.ref zs, .int rw])), (zt, .inr (3, [.ref zr, .int pl, .int ln, .int cm])), (zd, .inr (5, [.ref zt, .ref yc, .int la, .int va, .int sy, .int ry])), (ze, .inr (7, [.ref zt, .int lb, .int le]))]) (Qc := qc_LB_clear D k h0 zr za zc zf zg yc yf yg zs zw zv zt zd ze so sr dr dw n f u L sf lf tf mf a lo sz rm rw pl ln cm la va sy ry lb le) (by decide) (Nat.le_of_ble_eq_true rfl) (fun p e s m below meth c ls A H Cc hP hD hA hS hl => ?_)
  obtain ⟨hx, hb, hml, hr, hlk, hown, hts, hK, hE, hin⟩ := Cc
  have hl : lv_has ls 1 [(0, .ref h0)] := hl
  refine lv_aload_n hx hb d_LB_clear_0 rfl (lv_at hl 0 rfl) ?_
  refine va_get (D := D) (ci := 8) (v := .ref zr) (C := R_LB) (T := T_LB) (N := 13) hx hb hts inw_LB hown hK hP 0 rfl rfl 0 (by decide) (hts (.fieldLink R_LB 10 "LikelyBits" "row" "LLikelyBits$Row;") mw_199) (fun _ h9 => h9) rfl d_LB_clear_1 ?_
  refine kcv (wc := [(zr, .inr (0, [.ref za, .int u])), (za, .inl (k.1, n, .inl f))]) (wr := [(h0, .inr (8, [.ref zr, .ref zc, .ref yc, .ref zs, .ref zw, .ref zv, .ref zt, .ref zd, .ref ze, .int so, .int sr, .int dr, .int dw])), (zc, .inr (1, [.ref zf, .ref zg])), (zf, .inl (k.1, 19, .inl sf)), (zg, .inl (k.1, 19, .inl lf)), (yc, .inr (1, [.ref yf, .ref yg])), (yf, .inl (k.1, 19, .inl tf)), (yg, .inl (k.1, 19, .inl mf)), (zs, .inr (2, [.ref zr, .int a])), (zw, .inr (4, [.ref zs, .ref zc, .int lo, .int sz, .int rm])), (zv, .inr (6, [.ref zs, .int rw])), (zt, .inr (3, [.ref zr, .int pl, .int ln, .int cm])), (zd, .inr (5, [.ref zt, .ref yc, .int la, .int va, .int sy, .int ry])), (ze, .inr (7, [.ref zt, .int lb, .int le]))]) (va_runV (As := []) (rest := []) ⟨hx, hb, hml, hown, hts⟩ (c_Row_empty l hl9 D k zr za H.size n f u L (by assumption)) (cwV 0 hts (gV mw_200 mw_201 mw_202 mw_47 mw_203) rfl rfl rfl (by decide +kernel) ⟨(Nat.le_of_ble_eq_true rfl), (Nat.le_of_ble_eq_true rfl)⟩) (kRecv (q := (R_Row, T_Row, 2)) (q0 := 1) (ci := 0) hK hP rfl rfl (kPre (wc := [(zr, .inr (0, [.ref za, .int u])), (za, .inl (k.1, n, .inl f))]) hE hK hP hD hS hA [1, 2] rfl (by decide))) rfl rfl hl.1 rfl (lv_room (Nat.le_of_ble_eq_true rfl)) d_LB_clear_4 ⟨(Nat.le_of_ble_eq_true rfl), (Nat.le_of_ble_eq_true rfl)⟩) hP hD hS hA [1, 2] [0, 3, 4, 5, 6, 7, 8, 9, 10, 11, 12, 13, 14] rfl rfl (by decide) (by decide) (fun zz uu H locs hw4 hz5 hP hD hS => ?_)
  obtain ⟨u_2, rfl⟩ : ∃ y, y = zz := ⟨_, rfl⟩
  obtain ⟨L_1, rfl⟩ : ∃ y, y = uu := ⟨_, rfl⟩
  have hw4 : L_1 = [] := hw4
  have hz5 : row_ok n f u_2 L_1 := hz5
  have hP : va_P D vwCl [(h0, .inr (8, [.ref zr, .ref zc, .ref yc, .ref zs, .ref zw, .ref zv, .ref zt, .ref zd, .ref ze, .int so, .int sr, .int dr, .int dw])), (zc, .inr (1, [.ref zf, .ref zg])), (zf, .inl (k.1, 19, .inl sf)), (zg, .inl (k.1, 19, .inl lf)), (yc, .inr (1, [.ref yf, .ref yg])), (yf, .inl (k.1, 19, .inl tf)), (yg, .inl (k.1, 19, .inl mf)), (zs, .inr (2, [.ref zr, .int a])), (zw, .inr (4, [.ref zs, .ref zc, .int lo, .int sz, .int rm])), (zv, .inr (6, [.ref zs, .int rw])), (zt, .inr (3, [.ref zr, .int pl, .int ln, .int cm])), (zd, .inr (5, [.ref zt, .ref yc, .int la, .int va, .int sy, .int ry])), (ze, .inr (7, [.ref zt, .int lb, .int le])), (zr, .inr (0, [.ref za, .int u_2])), (za, .inl (k.1, n, .inl f))] H := hP
  have hD : va_D A [(h0, .inr (8, [.ref zr, .ref zc, .ref yc, .ref zs, .ref zw, .ref zv, .ref zt, .ref zd, .ref ze, .int so, .int sr, .int dr, .int dw])), (zc, .inr (1, [.ref zf, .ref zg])), (zf, .inl (k.1, 19, .inl sf)), (zg, .inl (k.1, 19, .inl lf)), (yc, .inr (1, [.ref yf, .ref yg])), (yf, .inl (k.1, 19, .inl tf)), (yg, .inl (k.1, 19, .inl mf)), (zs, .inr (2, [.ref zr, .int a])), (zw, .inr (4, [.ref zs, .ref zc, .int lo, .int sz, .int rm])), (zv, .inr (6, [.ref zs, .int rw])), (zt, .inr (3, [.ref zr, .int pl, .int ln, .int cm])), (zd, .inr (5, [.ref zt, .ref yc, .int la, .int va, .int sy, .int ry])), (ze, .inr (7, [.ref zt, .int lb, .int le])), (zr, .inr (0, [.ref za, .int u_2])), (za, .inl (k.1, n, .inl f))] := hD
  refine lv_aload_n hx hb d_LB_clear_7 rfl (lv_at hl 0 rfl) ?_
  refine lv_iconst (v := 0) hx hb d_LB_clear_8 (by decide) ?_
  refine va_put (D := D) (ci := 8) (v := .int 0) (ty := .boolean) (C := R_LB) (T := T_LB) (N := 13) hx hb hts inw_LB ty_LB tyok_LB nm_LB hown hK hP hD hS 0 rfl rfl 9 (by decide) (hts (.fieldLink R_LB 81 "LikelyBits" "segmentOpen" "Z") mw_190) (fun _ h9 => h9) rfl (by decide +kernel) rfl rfl (Nat.le_of_ble_eq_true rfl) d_LB_clear_9 (fun H locs hP hD hS => ?_)
  have hP : va_P D vwCl [(h0, .inr (8, [.ref zr, .ref zc, .ref yc, .ref zs, .ref zw, .ref zv, .ref zt, .ref zd, .ref ze, .int 0, .int sr, .int dr, .int dw])), (zc, .inr (1, [.ref zf, .ref zg])), (zf, .inl (k.1, 19, .inl sf)), (zg, .inl (k.1, 19, .inl lf)), (yc, .inr (1, [.ref yf, .ref yg])), (yf, .inl (k.1, 19, .inl tf)), (yg, .inl (k.1, 19, .inl mf)), (zs, .inr (2, [.ref zr, .int a])), (zw, .inr (4, [.ref zs, .ref zc, .int lo, .int sz, .int rm])), (zv, .inr (6, [.ref zs, .int rw])), (zt, .inr (3, [.ref zr, .int pl, .int ln, .int cm])), (zd, .inr (5, [.ref zt, .ref yc, .int la, .int va, .int sy, .int ry])), (ze, .inr (7, [.ref zt, .int lb, .int le])), (zr, .inr (0, [.ref za, .int u_2])), (za, .inl (k.1, n, .inl f))] H := hP
  have hD : va_D A [(h0, .inr (8, [.ref zr, .ref zc, .ref yc, .ref zs, .ref zw, .ref zv, .ref zt, .ref zd, .ref ze, .int 0, .int sr, .int dr, .int dw])), (zc, .inr (1, [.ref zf, .ref zg])), (zf, .inl (k.1, 19, .inl sf)), (zg, .inl (k.1, 19, .inl lf)), (yc, .inr (1, [.ref yf, .ref yg])), (yf, .inl (k.1, 19, .inl tf)), (yg, .inl (k.1, 19, .inl mf)), (zs, .inr (2, [.ref zr, .int a])), (zw, .inr (4, [.ref zs, .ref zc, .int lo, .int sz, .int rm])), (zv, .inr (6, [.ref zs, .int rw])), (zt, .inr (3, [.ref zr, .int pl, .int ln, .int cm])), (zd, .inr (5, [.ref zt, .ref yc, .int la, .int va, .int sy, .int ry])), (ze, .inr (7, [.ref zt, .int lb, .int le])), (zr, .inr (0, [.ref za, .int u_2])), (za, .inl (k.1, n, .inl f))] := hD
  refine lv_aload_n hx hb d_LB_clear_12 rfl (lv_at hl 0 rfl) ?_
  refine lv_iconst (v := 0) hx hb d_LB_clear_13 (by decide) ?_
  refine va_put (D := D) (ci := 8) (v := .int 0) (ty := .boolean) (C := R_LB) (T := T_LB) (N := 13) hx hb hts inw_LB ty_LB tyok_LB nm_LB hown hK hP hD hS 0 rfl rfl 11 (by decide) (hts (.fieldLink R_LB 85 "LikelyBits" "sourceRead" "Z") mw_195) (fun _ h9 => h9) rfl (by decide +kernel) rfl rfl (Nat.le_of_ble_eq_true rfl) d_LB_clear_14 (fun H locs hP hD hS => ?_)
  have hP : va_P D vwCl [(h0, .inr (8, [.ref zr, .ref zc, .ref yc, .ref zs, .ref zw, .ref zv, .ref zt, .ref zd, .ref ze, .int 0, .int sr, .int 0, .int dw])), (zc, .inr (1, [.ref zf, .ref zg])), (zf, .inl (k.1, 19, .inl sf)), (zg, .inl (k.1, 19, .inl lf)), (yc, .inr (1, [.ref yf, .ref yg])), (yf, .inl (k.1, 19, .inl tf)), (yg, .inl (k.1, 19, .inl mf)), (zs, .inr (2, [.ref zr, .int a])), (zw, .inr (4, [.ref zs, .ref zc, .int lo, .int sz, .int rm])), (zv, .inr (6, [.ref zs, .int rw])), (zt, .inr (3, [.ref zr, .int pl, .int ln, .int cm])), (zd, .inr (5, [.ref zt, .ref yc, .int la, .int va, .int sy, .int ry])), (ze, .inr (7, [.ref zt, .int lb, .int le])), (zr, .inr (0, [.ref za, .int u_2])), (za, .inl (k.1, n, .inl f))] H := hP
  have hD : va_D A [(h0, .inr (8, [.ref zr, .ref zc, .ref yc, .ref zs, .ref zw, .ref zv, .ref zt, .ref zd, .ref ze, .int 0, .int sr, .int 0, .int dw])), (zc, .inr (1, [.ref zf, .ref zg])), (zf, .inl (k.1, 19, .inl sf)), (zg, .inl (k.1, 19, .inl lf)), (yc, .inr (1, [.ref yf, .ref yg])), (yf, .inl (k.1, 19, .inl tf)), (yg, .inl (k.1, 19, .inl mf)), (zs, .inr (2, [.ref zr, .int a])), (zw, .inr (4, [.ref zs, .ref zc, .int lo, .int sz, .int rm])), (zv, .inr (6, [.ref zs, .int rw])), (zt, .inr (3, [.ref zr, .int pl, .int ln, .int cm])), (zd, .inr (5, [.ref zt, .ref yc, .int la, .int va, .int sy, .int ry])), (ze, .inr (7, [.ref zt, .int lb, .int le])), (zr, .inr (0, [.ref za, .int u_2])), (za, .inl (k.1, n, .inl f))] := hD
  exact krv (wo := wo_LB_clear k h0 zr za zc zf zg yc yf yg zs zw zv zt zd ze so sr dr dw n f u L sf lf tf mf a lo sz rm rw pl ln cm la va sy ry lb le) hx hb hr hlk hP hD hS () u_2 trivial (by obtain rfl := hw4; assumption) [0, 13, 14, 1, 2, 3, 4, 5, 6, 7, 8, 9, 10, 11, 12] rfl (by decide) (Nat.le_of_ble_eq_true rfl) (Nat.le_of_ble_eq_true rfl) d_LB_clear_17

set_option maxRecDepth 20000 in
theorem mw_149 : (Cond.methodLink R_CRd 3 objectInit) ∈ AW := inAW (List.mem_append_right _ (show _ ∈ tables_1_1 ++ (tables_1_2 ++ (tables_1_3 ++ tables_1_4)) from (List.mem_append_left _ (List.mem_of_getElem? (i := 133) rfl)))) rfl
set_option maxRecDepth 20000 in
theorem mw_150 : (Cond.fieldLink R_CRd 9 "LikelyBits$CodedReader" "source" "LLikelyBits$Source;") ∈ AW := inAW (List.mem_append_right _ (show _ ∈ tables_1_1 ++ (tables_1_2 ++ (tables_1_3 ++ tables_1_4)) from (List.mem_append_left _ (List.mem_of_getElem? (i := 134) rfl)))) rfl
set_option maxRecDepth 20000 in
theorem mw_151 : (Cond.fieldLink R_CRd 15 "LikelyBits$CodedReader" "contexts" "LLikelyBits$Contexts;") ∈ AW := inAW (List.mem_append_right _ (show _ ∈ tables_1_1 ++ (tables_1_2 ++ (tables_1_3 ++ tables_1_4)) from (List.mem_append_left _ (List.mem_of_getElem? (i := 135) rfl)))) rfl
set_option maxRecDepth 20000 in
theorem mw_152 : (Cond.fieldLink R_CRd 25 "LikelyBits$CodedReader" "last" "I") ∈ AW := inAW (List.mem_append_right _ (show _ ∈ tables_1_1 ++ (tables_1_2 ++ (tables_1_3 ++ tables_1_4)) from (List.mem_append_left _ (List.mem_of_getElem? (i := 136) rfl)))) rfl
set_option maxRecDepth 20000 in
theorem mw_153 : (Cond.methodLink R_CRd 42 y_Src_peek) ∈ AW := inAW (List.mem_append_right _ (show _ ∈ tables_1_1 ++ (tables_1_2 ++ (tables_1_3 ++ tables_1_4)) from (List.mem_append_right _ (List.mem_append_right _ (List.mem_append_left _ (List.mem_of_getElem? (i := 139) rfl)))))) rfl
set_option maxRecDepth 20000 in
theorem mw_154 : (Cond.methodLink R_CRd 19 y_Src_take) ∈ AW := inAW (List.mem_append_right _ (show _ ∈ tables_1_1 ++ (tables_1_2 ++ (tables_1_3 ++ tables_1_4)) from (List.mem_append_right _ (List.mem_append_right _ (List.mem_append_left _ (List.mem_of_getElem? (i := 125) rfl)))))) rfl
set_option maxRecDepth 20000 in
theorem mw_155 : (Cond.instanceMethod y_Src_take) ∈ AW := inAW (List.mem_append_right _ (show _ ∈ tables_1_1 ++ (tables_1_2 ++ (tables_1_3 ++ tables_1_4)) from (List.mem_append_right _ (List.mem_append_right _ (List.mem_append_left _ (List.mem_of_getElem? (i := 126) rfl)))))) rfl
set_option maxRecDepth 20000 in
theorem mw_156 : (Cond.selects R_Src y_Src_take y_Src_take) ∈ AW := inAW (List.mem_append_right _ (show _ ∈ tables_1_1 ++ (tables_1_2 ++ (tables_1_3 ++ tables_1_4)) from (List.mem_append_right _ (List.mem_append_right _ (List.mem_append_left _ (List.mem_of_getElem? (i := 127) rfl)))))) rfl
set_option maxRecDepth 20000 in
theorem mw_157 : (Cond.code y_Src_take b_Src_take 2 (some .int)) ∈ AW := inAW (List.mem_append_right _ (show _ ∈ tables_1_1 ++ (tables_1_2 ++ (tables_1_3 ++ tables_1_4)) from (List.mem_append_right _ (List.mem_append_right _ (List.mem_append_left _ (List.mem_of_getElem? (i := 128) rfl)))))) rfl
set_option maxRecDepth 20000 in
theorem mw_158 : (Cond.fieldLink R_CRd 29 "LikelyBits$CodedReader" "value" "I") ∈ AW := inAW (List.mem_append_right _ (show _ ∈ tables_1_1 ++ (tables_1_2 ++ (tables_1_3 ++ tables_1_4)) from (List.mem_append_left _ (List.mem_of_getElem? (i := 137) rfl)))) rfl
set_option maxRecDepth 20000 in
theorem mw_159 : (Cond.fieldLink R_CRd 39 "LikelyBits$CodedReader" "room" "I") ∈ AW := inAW (List.mem_append_right _ (show _ ∈ tables_1_1 ++ (tables_1_2 ++ (tables_1_3 ++ tables_1_4)) from (List.mem_append_left _ (List.mem_of_getElem? (i := 140) rfl)))) rfl
set_option maxRecDepth 20000 in
theorem mw_160 : (Cond.constant R_CRd 45 65280) ∈ AW := inAW (List.mem_append_right _ (show _ ∈ tables_1_1 ++ (tables_1_2 ++ (tables_1_3 ++ tables_1_4)) from (List.mem_append_right _ (List.mem_append_right _ (List.mem_append_left _ (List.mem_of_getElem? (i := 140) rfl)))))) rfl
set_option maxRecDepth 20000 in
theorem mw_161 : (Cond.constant R_CRd 32 32768) ∈ AW := inAW (List.mem_append_right _ (show _ ∈ tables_1_1 ++ (tables_1_2 ++ (tables_1_3 ++ tables_1_4)) from (List.mem_append_right _ (List.mem_append_right _ (List.mem_append_left _ (List.mem_of_getElem? (i := 134) rfl)))))) rfl
set_option maxRecDepth 20000 in
theorem mw_162 : (Cond.fieldLink R_CRd 33 "LikelyBits$CodedReader" "size" "I") ∈ AW := inAW (List.mem_append_right _ (show _ ∈ tables_1_1 ++ (tables_1_2 ++ (tables_1_3 ++ tables_1_4)) from (List.mem_append_left _ (List.mem_of_getElem? (i := 138) rfl)))) rfl
set_option maxRecDepth 20000 in
theorem mw_163 : (Cond.methodLink R_CRd 36 y_CRd_byteIn) ∈ AW := inAW (List.mem_append_right _ (show _ ∈ tables_1_1 ++ (tables_1_2 ++ (tables_1_3 ++ tables_1_4)) from (List.mem_append_right _ (List.mem_append_right _ (List.mem_append_left _ (List.mem_of_getElem? (i := 135) rfl)))))) rfl
set_option maxRecDepth 20000 in
theorem mw_164 : (Cond.instanceMethod y_CRd_byteIn) ∈ AW := inAW (List.mem_append_right _ (show _ ∈ tables_1_1 ++ (tables_1_2 ++ (tables_1_3 ++ tables_1_4)) from (List.mem_append_right _ (List.mem_append_right _ (List.mem_append_left _ (List.mem_of_getElem? (i := 137) rfl)))))) rfl
set_option maxRecDepth 20000 in
theorem mw_165 : (Cond.selects R_CRd y_CRd_byteIn y_CRd_byteIn) ∈ AW := inAW (List.mem_append_left _ (List.mem_of_getElem? (i := 8) rfl)) rfl
set_option maxRecDepth 20000 in
theorem mw_166 : (Cond.initialized R_CRd) ∈ AW := inAW (List.mem_append_right _ (show _ ∈ tables_1_1 ++ (tables_1_2 ++ (tables_1_3 ++ tables_1_4)) from (List.mem_append_left _ (List.mem_of_getElem? (i := 8) rfl)))) rfl
set_option maxRecDepth 20000 in
theorem mw_167 : (Cond.code y_CRd_byteIn b_CRd_byteIn 1 none) ∈ AW := inAW (List.mem_append_right _ (show _ ∈ tables_1_1 ++ (tables_1_2 ++ (tables_1_3 ++ tables_1_4)) from (List.mem_append_right _ (List.mem_append_right _ (List.mem_append_left _ (List.mem_of_getElem? (i := 138) rfl)))))) rfl
set_option maxRecDepth 20000 in
theorem mw_168 : (Cond.methodLink R_CRd 46 y_Cxt_partOf) ∈ AW := inAW (List.mem_append_right _ (show _ ∈ tables_1_1 ++ (tables_1_2 ++ (tables_1_3 ++ tables_1_4)) from (List.mem_append_right _ (List.mem_append_right _ (List.mem_append_left _ (List.mem_of_getElem? (i := 158) rfl)))))) rfl
set_option maxRecDepth 20000 in
theorem mw_169 : (Cond.methodLink R_CRd 52 y_Cxt_likelyBitOf) ∈ AW := inAW (List.mem_append_right _ (show _ ∈ tables_1_1 ++ (tables_1_2 ++ (tables_1_3 ++ tables_1_4)) from (List.mem_append_right _ (List.mem_append_right _ (List.mem_append_left _ (List.mem_of_getElem? (i := 159) rfl)))))) rfl
set_option maxRecDepth 20000 in
theorem mw_170 : (Cond.methodLink R_CRd 59 y_Cxt_afterOther) ∈ AW := inAW (List.mem_append_right _ (show _ ∈ tables_1_1 ++ (tables_1_2 ++ (tables_1_3 ++ tables_1_4)) from (List.mem_append_right _ (List.mem_append_right _ (List.mem_append_left _ (List.mem_of_getElem? (i := 161) rfl)))))) rfl
set_option maxRecDepth 20000 in
theorem mw_171 : (Cond.methodLink R_CRd 62 y_CRd_enlarge) ∈ AW := inAW (List.mem_append_right _ (show _ ∈ tables_1_1 ++ (tables_1_2 ++ (tables_1_3 ++ tables_1_4)) from (List.mem_append_right _ (List.mem_append_right _ (List.mem_append_left _ (List.mem_of_getElem? (i := 162) rfl)))))) rfl
set_option maxRecDepth 20000 in
theorem mw_172 : (Cond.instanceMethod y_CRd_enlarge) ∈ AW := inAW (List.mem_append_right _ (show _ ∈ tables_1_1 ++ (tables_1_2 ++ (tables_1_3 ++ tables_1_4)) from (List.mem_append_right _ (List.mem_append_right _ (List.mem_append_left _ (List.mem_of_getElem? (i := 164) rfl)))))) rfl
set_option maxRecDepth 20000 in
theorem mw_173 : (Cond.selects R_CRd y_CRd_enlarge y_CRd_enlarge) ∈ AW := inAW (List.mem_append_left _ (List.mem_of_getElem? (i := 9) rfl)) rfl
set_option maxRecDepth 20000 in
theorem mw_174 : (Cond.code y_CRd_enlarge b_CRd_enlarge 2 none) ∈ AW := inAW (List.mem_append_right _ (show _ ∈ tables_1_1 ++ (tables_1_2 ++ (tables_1_3 ++ tables_1_4)) from (List.mem_append_right _ (List.mem_append_right _ (List.mem_append_left _ (List.mem_of_getElem? (i := 165) rfl)))))) rfl
set_option maxRecDepth 20000 in
theorem mw_175 : (Cond.methodLink R_CRd 55 y_Cxt_afterLikely) ∈ AW := inAW (List.mem_append_right _ (show _ ∈ tables_1_1 ++ (tables_1_2 ++ (tables_1_3 ++ tables_1_4)) from (List.mem_append_right _ (List.mem_append_right _ (List.mem_append_left _ (List.mem_of_getElem? (i := 160) rfl)))))) rfl
def wo_CRd_init (k : gK) (h0 : Nat) (qs : Nat) (qc : Nat) (zz : Unit) (uu : Unit) : va_W := match zz, uu with
  | _, _ => [(h0, .inr (5, [.ref qs, .ref qc, .int 0, .int 0, .int 0, .int 0]))]
def ex_CRd_init (k : gK) (h0 : Nat) (qs : Nat) (qc : Nat) (zz : Unit) (uu : Unit) : Prop := match zz, uu with
  | _, _ => True
def po_CRd_init (k : gK) (h0 : Nat) (qs : Nat) (qc : Nat) (uu : Unit) : Prop := match uu with
  | _ => True
def qc_CRd_init (D : va_G) (k : gK) (h0 : Nat) (qs : Nat) (qc : Nat) (A : Nat → Prop) : Array Value → State → Outcome → State → Prop := va_Qv (po_CRd_init k h0 qs qc) (fun uu t => ∃ zz, ex_CRd_init k h0 qs qc zz uu ∧ GP D A (wo_CRd_init k h0 qs qc zz uu) t) A
set_option maxHeartbeats 1000000 in
set_option maxRecDepth 100000 in
theorem c_CRd_init (l : Launch) (hl9 : l.stackTraces = false) (D : va_G) (k : gK) (h0 : Nat) (zsz : Nat) (qs : Nat) (qc : Nat) : Met l y_CRd_init (.code y_CRd_init b_CRd_init 3 none :: AW) ({ frames := 1, cells := 0, slots := 0, locals := 22 }) (va_Pc [.ref h0, .ref qs, .ref qc] (GG D k [(h0, .inr (5, [.null, .null, .int 0, .int 0, .int 0, .int 0]))] zsz)) (qc_CRd_init D k h0 qs qc (va_A [(h0, .inr (5, [.null, .null, .int 0, .int 0, .int 0, .int 0]))] zsz)) 0 0 (va_A [(h0, .inr (5, [.null, .null, .int 0, .int 0, .int 0, .int 0]))] zsz) := by
  refine kMet (ws := [(h0, .inr (5, [.null, .null, .int 0, .int 0, .int 0, .int 0]))]) (Qc := qc_CRd_init D k h0 qs qc) (by decide) (Nat.le_of_ble_eq_true rfl) (fun p e s m below meth c ls A H Cc hP hD hA hS hl => ?_)
  obtain ⟨hx, hb, hml, hr, hlk, hown, hts, hK, hE, hin⟩ := Cc
  have hl : lv_has ls 3 [(0, .ref h0), (1, .ref qs), (2, .ref qc)] := hl
  refine lv_aload_n hx hb d_CRd_init_0 rfl (lv_at hl 0 rfl) ?_
  refine W.objInit hx hb hown (hts (.methodLink R_CRd 3 objectInit) mw_149) (hts (.instanceMethod objectInit) mw_3) (hts (.code objectInit ⟨#[0xb1]⟩ 1 none) mw_4) rfl (by rw [hml]; exact hl.1) rfl d_CRd_init_1 (Nat.le_of_ble_eq_true rfl) (Nat.le_of_ble_eq_true rfl) ?_
  refine W.eq (g2 := F0 m 4 ls []) rfl ?_
  refine lv_aload_n hx hb d_CRd_init_4 rfl (lv_at hl 0 rfl) ?_
  refine lv_aload_n hx hb d_CRd_init_5 rfl (lv_at hl 1 rfl) ?_
  refine va_putF (D := D) (ci := 5) (v := .ref qs) (ty := .object "LikelyBits$Source") (C := R_CRd) (T := T_CRd) (N := 6) hx hb hts inw_CRd ty_CRd tyok_CRd nm_CRd hown hK hP hD hS 0 rfl rfl 0 (by decide) (hts (.fieldLink R_CRd 9 "LikelyBits$CodedReader" "source" "LLikelyBits$Source;") mw_150) (fun _ h9 => h9) rfl hin rfl (by decide +kernel) rfl rfl (Nat.le_of_ble_eq_true rfl) d_CRd_init_6 (fun H locs hP hD hS => ?_)
  have hP : va_P D vwCl [(h0, .inr (5, [.ref qs, .null, .int 0, .int 0, .int 0, .int 0]))] H := hP
  have hD : va_D A [(h0, .inr (5, [.ref qs, .null, .int 0, .int 0, .int 0, .int 0]))] := hD
  refine lv_aload_n hx hb d_CRd_init_9 rfl (lv_at hl 0 rfl) ?_
  refine lv_aload_n hx hb d_CRd_init_10 rfl (lv_at hl 2 rfl) ?_
  refine va_putF (D := D) (ci := 5) (v := .ref qc) (ty := .object "LikelyBits$Contexts") (C := R_CRd) (T := T_CRd) (N := 6) hx hb hts inw_CRd ty_CRd tyok_CRd nm_CRd hown hK hP hD hS 0 rfl rfl 1 (by decide) (hts (.fieldLink R_CRd 15 "LikelyBits$CodedReader" "contexts" "LLikelyBits$Contexts;") mw_151) (fun _ h9 => h9) rfl hin rfl (by decide +kernel) rfl rfl (Nat.le_of_ble_eq_true rfl) d_CRd_init_11 (fun H locs hP hD hS => ?_)
  have hP : va_P D vwCl [(h0, .inr (5, [.ref qs, .ref qc, .int 0, .int 0, .int 0, .int 0]))] H := hP
  have hD : va_D A [(h0, .inr (5, [.ref qs, .ref qc, .int 0, .int 0, .int 0, .int 0]))] := hD
  exact krv (wo := wo_CRd_init k h0 qs qc) hx hb hr hlk hP hD hS () () trivial trivial [0] rfl (by decide) (Nat.le_of_ble_eq_true rfl) (Nat.le_of_ble_eq_true rfl) d_CRd_init_14

def wo_CRd_byteIn (k : gK) (h0 qs qr qa : Nat) (qc : Nat) (la : Int32) (va : Int32) (sz : Int32) (rm : Int32) (pl : Int32) (ln : Int32) (cm : Int32) (n : Nat) (f : Nat → Int32) (u : Int32) (L : List Int32) (zz : Unit) (uu : Int32 × Int32 × Int32 × Int32) : va_W := match zz, uu with
  | _, (la2, va2, rm2, cm2) => [(h0, .inr (5, [.ref qs, .ref qc, .int la2, .int va2, .int sz, .int rm2])), (qs, .inr (3, [.ref qr, .int pl, .int ln, .int cm2])), (qr, .inr (0, [.ref qa, .int u])), (qa, .inl (k.1, n, .inl f))]
def ex_CRd_byteIn (k : gK) (h0 qs qr qa : Nat) (qc : Nat) (la : Int32) (va : Int32) (sz : Int32) (rm : Int32) (pl : Int32) (ln : Int32) (cm : Int32) (n : Nat) (f : Nat → Int32) (u : Int32) (L : List Int32) (zz : Unit) (uu : Int32 × Int32 × Int32 × Int32) : Prop := match zz, uu with
  | _, (la2, va2, rm2, cm2) => True
def po_CRd_byteIn (k : gK) (h0 qs qr qa : Nat) (qc : Nat) (la : Int32) (va : Int32) (sz : Int32) (rm : Int32) (pl : Int32) (ln : Int32) (cm : Int32) (n : Nat) (f : Nat → Int32) (u : Int32) (L : List Int32) (uu : Int32 × Int32 × Int32 × Int32) : Prop := match uu with
  | (la2, va2, rm2, cm2) => la2 = (rbi L pl ln la va cm).1 ∧ va2 = (rbi L pl ln la va cm).2.1 ∧ rm2 = (rbi L pl ln la va cm).2.2.1 ∧ cm2 = (rbi L pl ln la va cm).2.2.2
def qc_CRd_byteIn (D : va_G) (k : gK) (h0 qs qr qa : Nat) (qc : Nat) (la : Int32) (va : Int32) (sz : Int32) (rm : Int32) (pl : Int32) (ln : Int32) (cm : Int32) (n : Nat) (f : Nat → Int32) (u : Int32) (L : List Int32) (A : Nat → Prop) : Array Value → State → Outcome → State → Prop := va_Qv (po_CRd_byteIn k h0 qs qr qa qc la va sz rm pl ln cm n f u L) (fun uu t => ∃ zz, ex_CRd_byteIn k h0 qs qr qa qc la va sz rm pl ln cm n f u L zz uu ∧ GP D A (wo_CRd_byteIn k h0 qs qr qa qc la va sz rm pl ln cm n f u L zz uu) t) A
set_option maxHeartbeats 1000000 in
set_option maxRecDepth 100000 in
theorem c_CRd_byteIn (l : Launch) (hl9 : l.stackTraces = false) (D : va_G) (k : gK) (h0 qs qr qa : Nat) (zsz : Nat) (qc : Nat) (la : Int32) (va : Int32) (sz : Int32) (rm : Int32) (pl : Int32) (ln : Int32) (cm : Int32) (n : Nat) (f : Nat → Int32) (u : Int32) (L : List Int32) (hR : row_ok n f u L) : Met l y_CRd_byteIn (.code y_CRd_byteIn b_CRd_byteIn 1 none :: AW) ({ frames := 3, cells := 0, slots := 0, locals := 62 }) (va_Pc [.ref h0] (GG D k [(h0, .inr (5, [.ref qs, .ref qc, .int la, .int va, .int sz, .int rm])), (qs, .inr (3, [.ref qr, .int pl, .int ln, .int cm])), (qr, .inr (0, [.ref qa, .int u])), (qa, .inl (k.1, n, .inl f))] zsz)) (qc_CRd_byteIn D k h0 qs qr qa qc la va sz rm pl ln cm n f u L (va_A [(h0, .inr (5, [.ref qs, .ref qc, .int la, .int va, .int sz, .int rm])), (qs, .inr (3, [.ref qr, .int pl, .int ln, .int cm])), (qr, .inr (0, [.ref qa, .int u])), (qa, .inl (k.1, n, .inl f))] zsz)) 0 0 (va_A [(h0, .inr (5, [.ref qs, .ref qc, .int la, .int va, .int sz, .int rm])), (qs, .inr (3, [.ref qr, .int pl, .int ln, .int cm])), (qr, .inr (0, [.ref qa, .int u])), (qa, .inl (k.1, n, .inl f))] zsz) := by
  refine kMet (ws := [(h0, .inr (5, [.ref qs, .ref qc, .int la, .int va, .int sz, .int rm])), (qs, .inr (3, [.ref qr, .int pl, .int ln, .int cm])), (qr, .inr (0, [.ref qa, .int u])), (qa, .inl (k.1, n, .inl f))]) (Qc := qc_CRd_byteIn D k h0 qs qr qa qc la va sz rm pl ln cm n f u L) (by decide) (Nat.le_of_ble_eq_true rfl) (fun p e s m below meth c ls A H Cc hP hD hA hS hl => ?_)
  obtain ⟨hx, hb, hml, hr, hlk, hown, hts, hK, hE, hin⟩ := Cc
  have hl : lv_has ls 1 [(0, .ref h0)] := hl
  refine lv_aload_n hx hb d_CRd_byteIn_0 rfl (lv_at hl 0 rfl) ?_
  refine va_get (D := D) (ci := 5) (v := .int la) (C := R_CRd) (T := T_CRd) (N := 6) hx hb hts inw_CRd hown hK hP 0 rfl rfl 2 (by decide) (hts (.fieldLink R_CRd 25 "LikelyBits$CodedReader" "last" "I") mw_152) (fun _ h9 => h9) rfl d_CRd_byteIn_1 ?_
  refine lv_sipush (v := 255) hx hb d_CRd_byteIn_4 (by decide) ?_
  refine lv_icmp_eq (tgt := 46) hx hb d_CRd_byteIn_7 (by decide) (fun c1 => ?_) (fun c1 => ?_)
  · refine lv_aload_n hx hb d_CRd_byteIn_46 rfl (lv_at hl 0 rfl) ?_
    refine va_get (D := D) (ci := 5) (v := .ref qs) (C := R_CRd) (T := T_CRd) (N := 6) hx hb hts inw_CRd hown hK hP 0 rfl rfl 0 (by decide) (hts (.fieldLink R_CRd 9 "LikelyBits$CodedReader" "source" "LLikelyBits$Source;") mw_150) (fun _ h9 => h9) rfl d_CRd_byteIn_47 ?_
    refine kqi (va_runV (As := []) (rest := []) ⟨hx, hb, hml, hown, hts⟩ (c_Src_peek l hl9 D k qs qr qa pl ln cm n f u L (by assumption)) (cwV 0 hts (gV mw_153 mw_145 mw_146 mw_147 mw_148) rfl rfl rfl (by decide +kernel) ⟨(Nat.le_of_ble_eq_true rfl), (Nat.le_of_ble_eq_true rfl)⟩) (kRecv (q := (R_Src, T_Src, 4)) (q0 := 1) (ci := 3) hK hP rfl rfl (kPreR (wc := [(qs, .inr (3, [.ref qr, .int pl, .int ln, .int cm])), (qr, .inr (0, [.ref qa, .int u])), (qa, .inl (k.1, n, .inl f))]) hE hK hP hS [1, 2, 3] rfl)) rfl rfl hl.1 rfl (lv_room (Nat.le_of_ble_eq_true rfl)) d_CRd_byteIn_50 ⟨(Nat.le_of_ble_eq_true rfl), (Nat.le_of_ble_eq_true rfl)⟩) hP hS (fun r2 H locs hw hP hS => ?_)
    replace hw := hw.symm
    subst hw
    refine lv_sipush (v := 143) hx hb d_CRd_byteIn_53 (by decide) ?_
    refine lv_icmp_le (tgt := 79) hx hb d_CRd_byteIn_56 (by decide) (fun c3 => ?_) (fun c3 => ?_)
    · refine lv_aload_n hx hb d_CRd_byteIn_79 rfl (lv_at hl 0 rfl) ?_
      refine lv_aload_n hx hb d_CRd_byteIn_80 rfl (lv_at hl 0 rfl) ?_
      refine va_get (D := D) (ci := 5) (v := .ref qs) (C := R_CRd) (T := T_CRd) (N := 6) hx hb hts inw_CRd hown hK hP 0 rfl rfl 0 (by decide) (hts (.fieldLink R_CRd 9 "LikelyBits$CodedReader" "source" "LLikelyBits$Source;") mw_150) (fun _ h9 => h9) rfl d_CRd_byteIn_81 ?_
      refine kci (wc := [(qs, .inr (3, [.ref qr, .int pl, .int ln, .int cm])), (qr, .inr (0, [.ref qa, .int u])), (qa, .inl (k.1, n, .inl f))]) (wr := [(h0, .inr (5, [.ref qs, .ref qc, .int la, .int va, .int sz, .int rm]))]) (va_runV (As := []) (rest := [.ref h0]) ⟨hx, hb, hml, hown, hts⟩ (c_Src_take l hl9 D k qs qr qa H.size pl ln cm n f u L (by assumption)) (cwV 0 hts (gV mw_154 mw_155 mw_156 mw_147 mw_157) rfl rfl rfl (by decide +kernel) ⟨(Nat.le_of_ble_eq_true rfl), (Nat.le_of_ble_eq_true rfl)⟩) (kRecv (q := (R_Src, T_Src, 4)) (q0 := 1) (ci := 3) hK hP rfl rfl (kPre (wc := [(qs, .inr (3, [.ref qr, .int pl, .int ln, .int cm])), (qr, .inr (0, [.ref qa, .int u])), (qa, .inl (k.1, n, .inl f))]) hE hK hP hD hS hA [1, 2, 3] rfl (by decide))) rfl rfl hl.1 rfl (lv_room (Nat.le_of_ble_eq_true rfl)) d_CRd_byteIn_84 ⟨(Nat.le_of_ble_eq_true rfl), (Nat.le_of_ble_eq_true rfl)⟩) hP hD hS hA [1, 2, 3] [0] rfl rfl (by decide) (by decide) (fun r5 zz uu H locs hw6 hz7 hP hD hS => ?_)
      obtain ⟨cm_4, rfl⟩ : ∃ y, y = uu := ⟨_, rfl⟩
      have hw6 : r5 = spk L pl ln cm ∧ cm_4 = scm ln cm := hw6
      have hP : va_P D vwCl [(h0, .inr (5, [.ref qs, .ref qc, .int la, .int va, .int sz, .int rm])), (qs, .inr (3, [.ref qr, .int pl, .int ln, .int cm_4])), (qr, .inr (0, [.ref qa, .int u])), (qa, .inl (k.1, n, .inl f))] H := hP
      have hD : va_D A [(h0, .inr (5, [.ref qs, .ref qc, .int la, .int va, .int sz, .int rm])), (qs, .inr (3, [.ref qr, .int pl, .int ln, .int cm_4])), (qr, .inr (0, [.ref qa, .int u])), (qa, .inl (k.1, n, .inl f))] := hD
      refine va_put (D := D) (ci := 5) (v := .int r5) (ty := .int) (C := R_CRd) (T := T_CRd) (N := 6) hx hb hts inw_CRd ty_CRd tyok_CRd nm_CRd hown hK hP hD hS 0 rfl rfl 2 (by decide) (hts (.fieldLink R_CRd 25 "LikelyBits$CodedReader" "last" "I") mw_152) (fun _ h9 => h9) rfl (by decide +kernel) rfl rfl (Nat.le_of_ble_eq_true rfl) d_CRd_byteIn_87 (fun H locs hP hD hS => ?_)
      have hP : va_P D vwCl [(h0, .inr (5, [.ref qs, .ref qc, .int r5, .int va, .int sz, .int rm])), (qs, .inr (3, [.ref qr, .int pl, .int ln, .int cm_4])), (qr, .inr (0, [.ref qa, .int u])), (qa, .inl (k.1, n, .inl f))] H := hP
      have hD : va_D A [(h0, .inr (5, [.ref qs, .ref qc, .int r5, .int va, .int sz, .int rm])), (qs, .inr (3, [.ref qr, .int pl, .int ln, .int cm_4])), (qr, .inr (0, [.ref qa, .int u])), (qa, .inl (k.1, n, .inl f))] := hD
      refine lv_aload_n hx hb d_CRd_byteIn_90 rfl (lv_at hl 0 rfl) ?_
      refine lv_dup hx hb d_CRd_byteIn_91 rfl ?_
      refine va_get (D := D) (ci := 5) (v := .int va) (C := R_CRd) (T := T_CRd) (N := 6) hx hb hts inw_CRd hown hK hP 0 rfl rfl 3 (by decide) (hts (.fieldLink R_CRd 29 "LikelyBits$CodedReader" "value" "I") mw_158) (fun _ h9 => h9) rfl d_CRd_byteIn_92 ?_
      refine lv_aload_n hx hb d_CRd_byteIn_95 rfl (lv_at hl 0 rfl) ?_
      refine va_get (D := D) (ci := 5) (v := .int r5) (C := R_CRd) (T := T_CRd) (N := 6) hx hb hts inw_CRd hown hK hP 0 rfl rfl 2 (by decide) (hts (.fieldLink R_CRd 25 "LikelyBits$CodedReader" "last" "I") mw_152) (fun _ h9 => h9) rfl d_CRd_byteIn_96 ?_
      refine lv_bipush (v := 9) hx hb d_CRd_byteIn_99 (by decide) ?_
      refine lv_ishl hx hb d_CRd_byteIn_101 ?_
      refine lv_iadd hx hb d_CRd_byteIn_102 ?_
      refine lv_topi (fun x8 ex8 => ?_)
      refine va_put (D := D) (ci := 5) (v := .int x8) (ty := .int) (C := R_CRd) (T := T_CRd) (N := 6) hx hb hts inw_CRd ty_CRd tyok_CRd nm_CRd hown hK hP hD hS 0 rfl rfl 3 (by decide) (hts (.fieldLink R_CRd 29 "LikelyBits$CodedReader" "value" "I") mw_158) (fun _ h9 => h9) rfl (by decide +kernel) rfl rfl (Nat.le_of_ble_eq_true rfl) d_CRd_byteIn_103 (fun H locs hP hD hS => ?_)
      have hP : va_P D vwCl [(h0, .inr (5, [.ref qs, .ref qc, .int r5, .int x8, .int sz, .int rm])), (qs, .inr (3, [.ref qr, .int pl, .int ln, .int cm_4])), (qr, .inr (0, [.ref qa, .int u])), (qa, .inl (k.1, n, .inl f))] H := hP
      have hD : va_D A [(h0, .inr (5, [.ref qs, .ref qc, .int r5, .int x8, .int sz, .int rm])), (qs, .inr (3, [.ref qr, .int pl, .int ln, .int cm_4])), (qr, .inr (0, [.ref qa, .int u])), (qa, .inl (k.1, n, .inl f))] := hD
      refine lv_aload_n hx hb d_CRd_byteIn_106 rfl (lv_at hl 0 rfl) ?_
      refine lv_bipush (v := 7) hx hb d_CRd_byteIn_107 (by decide) ?_
      refine va_put (D := D) (ci := 5) (v := .int 7) (ty := .int) (C := R_CRd) (T := T_CRd) (N := 6) hx hb hts inw_CRd ty_CRd tyok_CRd nm_CRd hown hK hP hD hS 0 rfl rfl 5 (by decide) (hts (.fieldLink R_CRd 39 "LikelyBits$CodedReader" "room" "I") mw_159) (fun _ h9 => h9) rfl (by decide +kernel) rfl rfl (Nat.le_of_ble_eq_true rfl) d_CRd_byteIn_109 (fun H locs hP hD hS => ?_)
      have hP : va_P D vwCl [(h0, .inr (5, [.ref qs, .ref qc, .int r5, .int x8, .int sz, .int 7])), (qs, .inr (3, [.ref qr, .int pl, .int ln, .int cm_4])), (qr, .inr (0, [.ref qa, .int u])), (qa, .inl (k.1, n, .inl f))] H := hP
      have hD : va_D A [(h0, .inr (5, [.ref qs, .ref qc, .int r5, .int x8, .int sz, .int 7])), (qs, .inr (3, [.ref qr, .int pl, .int ln, .int cm_4])), (qr, .inr (0, [.ref qa, .int u])), (qa, .inl (k.1, n, .inl f))] := hD
      exact krv (wo := wo_CRd_byteIn k h0 qs qr qa qc la va sz rm pl ln cm n f u L) hx hb hr hlk hP hD hS (r5, x8, 7, cm_4) () (by subst ex8; obtain ⟨rfl, rfl⟩ := hw6; simp [po_CRd_byteIn, rbi, c1, c3]) trivial [0, 1, 2, 3] rfl (by decide) (Nat.le_of_ble_eq_true rfl) (Nat.le_of_ble_eq_true rfl) d_CRd_byteIn_112
    · refine lv_aload_n hx hb d_CRd_byteIn_59 rfl (lv_at hl 0 rfl) ?_
      refine lv_dup hx hb d_CRd_byteIn_60 rfl ?_
      refine va_get (D := D) (ci := 5) (v := .int va) (C := R_CRd) (T := T_CRd) (N := 6) hx hb hts inw_CRd hown hK hP 0 rfl rfl 3 (by decide) (hts (.fieldLink R_CRd 29 "LikelyBits$CodedReader" "value" "I") mw_158) (fun _ h9 => h9) rfl d_CRd_byteIn_61 ?_
      refine lv_ldc (v := 65280) hx hb hown (hts (.constant R_CRd 45 65280) mw_160) d_CRd_byteIn_64 ?_
      refine lv_iadd hx hb d_CRd_byteIn_66 ?_
      refine lv_topi (fun x9 ex9 => ?_)
      refine va_put (D := D) (ci := 5) (v := .int x9) (ty := .int) (C := R_CRd) (T := T_CRd) (N := 6) hx hb hts inw_CRd ty_CRd tyok_CRd nm_CRd hown hK hP hD hS 0 rfl rfl 3 (by decide) (hts (.fieldLink R_CRd 29 "LikelyBits$CodedReader" "value" "I") mw_158) (fun _ h9 => h9) rfl (by decide +kernel) rfl rfl (Nat.le_of_ble_eq_true rfl) d_CRd_byteIn_67 (fun H locs hP hD hS => ?_)
      have hP : va_P D vwCl [(h0, .inr (5, [.ref qs, .ref qc, .int la, .int x9, .int sz, .int rm])), (qs, .inr (3, [.ref qr, .int pl, .int ln, .int cm])), (qr, .inr (0, [.ref qa, .int u])), (qa, .inl (k.1, n, .inl f))] H := hP
      have hD : va_D A [(h0, .inr (5, [.ref qs, .ref qc, .int la, .int x9, .int sz, .int rm])), (qs, .inr (3, [.ref qr, .int pl, .int ln, .int cm])), (qr, .inr (0, [.ref qa, .int u])), (qa, .inl (k.1, n, .inl f))] := hD
      refine lv_aload_n hx hb d_CRd_byteIn_70 rfl (lv_at hl 0 rfl) ?_
      refine lv_bipush (v := 8) hx hb d_CRd_byteIn_71 (by decide) ?_
      refine va_put (D := D) (ci := 5) (v := .int 8) (ty := .int) (C := R_CRd) (T := T_CRd) (N := 6) hx hb hts inw_CRd ty_CRd tyok_CRd nm_CRd hown hK hP hD hS 0 rfl rfl 5 (by decide) (hts (.fieldLink R_CRd 39 "LikelyBits$CodedReader" "room" "I") mw_159) (fun _ h9 => h9) rfl (by decide +kernel) rfl rfl (Nat.le_of_ble_eq_true rfl) d_CRd_byteIn_73 (fun H locs hP hD hS => ?_)
      have hP : va_P D vwCl [(h0, .inr (5, [.ref qs, .ref qc, .int la, .int x9, .int sz, .int 8])), (qs, .inr (3, [.ref qr, .int pl, .int ln, .int cm])), (qr, .inr (0, [.ref qa, .int u])), (qa, .inl (k.1, n, .inl f))] H := hP
      have hD : va_D A [(h0, .inr (5, [.ref qs, .ref qc, .int la, .int x9, .int sz, .int 8])), (qs, .inr (3, [.ref qr, .int pl, .int ln, .int cm])), (qr, .inr (0, [.ref qa, .int u])), (qa, .inl (k.1, n, .inl f))] := hD
      refine lv_goto (tgt := 112) hx hb d_CRd_byteIn_76 (by decide) ?_
      exact krv (wo := wo_CRd_byteIn k h0 qs qr qa qc la va sz rm pl ln cm n f u L) hx hb hr hlk hP hD hS (la, x9, 8, cm) () (by subst ex9; simp [po_CRd_byteIn, rbi, c1, c3]) trivial [0, 1, 2, 3] rfl (by decide) (Nat.le_of_ble_eq_true rfl) (Nat.le_of_ble_eq_true rfl) d_CRd_byteIn_112
  · refine lv_aload_n hx hb d_CRd_byteIn_10 rfl (lv_at hl 0 rfl) ?_
    refine lv_aload_n hx hb d_CRd_byteIn_11 rfl (lv_at hl 0 rfl) ?_
    refine va_get (D := D) (ci := 5) (v := .ref qs) (C := R_CRd) (T := T_CRd) (N := 6) hx hb hts inw_CRd hown hK hP 0 rfl rfl 0 (by decide) (hts (.fieldLink R_CRd 9 "LikelyBits$CodedReader" "source" "LLikelyBits$Source;") mw_150) (fun _ h9 => h9) rfl d_CRd_byteIn_12 ?_
    refine kci (wc := [(qs, .inr (3, [.ref qr, .int pl, .int ln, .int cm])), (qr, .inr (0, [.ref qa, .int u])), (qa, .inl (k.1, n, .inl f))]) (wr := [(h0, .inr (5, [.ref qs, .ref qc, .int la, .int va, .int sz, .int rm]))]) (va_runV (As := []) (rest := [.ref h0]) ⟨hx, hb, hml, hown, hts⟩ (c_Src_take l hl9 D k qs qr qa H.size pl ln cm n f u L (by assumption)) (cwV 0 hts (gV mw_154 mw_155 mw_156 mw_147 mw_157) rfl rfl rfl (by decide +kernel) ⟨(Nat.le_of_ble_eq_true rfl), (Nat.le_of_ble_eq_true rfl)⟩) (kRecv (q := (R_Src, T_Src, 4)) (q0 := 1) (ci := 3) hK hP rfl rfl (kPre (wc := [(qs, .inr (3, [.ref qr, .int pl, .int ln, .int cm])), (qr, .inr (0, [.ref qa, .int u])), (qa, .inl (k.1, n, .inl f))]) hE hK hP hD hS hA [1, 2, 3] rfl (by decide))) rfl rfl hl.1 rfl (lv_room (Nat.le_of_ble_eq_true rfl)) d_CRd_byteIn_15 ⟨(Nat.le_of_ble_eq_true rfl), (Nat.le_of_ble_eq_true rfl)⟩) hP hD hS hA [1, 2, 3] [0] rfl rfl (by decide) (by decide) (fun r11 zz uu H locs hw12 hz13 hP hD hS => ?_)
    obtain ⟨cm_10, rfl⟩ : ∃ y, y = uu := ⟨_, rfl⟩
    have hw12 : r11 = spk L pl ln cm ∧ cm_10 = scm ln cm := hw12
    have hP : va_P D vwCl [(h0, .inr (5, [.ref qs, .ref qc, .int la, .int va, .int sz, .int rm])), (qs, .inr (3, [.ref qr, .int pl, .int ln, .int cm_10])), (qr, .inr (0, [.ref qa, .int u])), (qa, .inl (k.1, n, .inl f))] H := hP
    have hD : va_D A [(h0, .inr (5, [.ref qs, .ref qc, .int la, .int va, .int sz, .int rm])), (qs, .inr (3, [.ref qr, .int pl, .int ln, .int cm_10])), (qr, .inr (0, [.ref qa, .int u])), (qa, .inl (k.1, n, .inl f))] := hD
    refine va_put (D := D) (ci := 5) (v := .int r11) (ty := .int) (C := R_CRd) (T := T_CRd) (N := 6) hx hb hts inw_CRd ty_CRd tyok_CRd nm_CRd hown hK hP hD hS 0 rfl rfl 2 (by decide) (hts (.fieldLink R_CRd 25 "LikelyBits$CodedReader" "last" "I") mw_152) (fun _ h9 => h9) rfl (by decide +kernel) rfl rfl (Nat.le_of_ble_eq_true rfl) d_CRd_byteIn_18 (fun H locs hP hD hS => ?_)
    have hP : va_P D vwCl [(h0, .inr (5, [.ref qs, .ref qc, .int r11, .int va, .int sz, .int rm])), (qs, .inr (3, [.ref qr, .int pl, .int ln, .int cm_10])), (qr, .inr (0, [.ref qa, .int u])), (qa, .inl (k.1, n, .inl f))] H := hP
    have hD : va_D A [(h0, .inr (5, [.ref qs, .ref qc, .int r11, .int va, .int sz, .int rm])), (qs, .inr (3, [.ref qr, .int pl, .int ln, .int cm_10])), (qr, .inr (0, [.ref qa, .int u])), (qa, .inl (k.1, n, .inl f))] := hD
    refine lv_aload_n hx hb d_CRd_byteIn_21 rfl (lv_at hl 0 rfl) ?_
    refine lv_dup hx hb d_CRd_byteIn_22 rfl ?_
    refine va_get (D := D) (ci := 5) (v := .int va) (C := R_CRd) (T := T_CRd) (N := 6) hx hb hts inw_CRd hown hK hP 0 rfl rfl 3 (by decide) (hts (.fieldLink R_CRd 29 "LikelyBits$CodedReader" "value" "I") mw_158) (fun _ h9 => h9) rfl d_CRd_byteIn_23 ?_
    refine lv_aload_n hx hb d_CRd_byteIn_26 rfl (lv_at hl 0 rfl) ?_
    refine va_get (D := D) (ci := 5) (v := .int r11) (C := R_CRd) (T := T_CRd) (N := 6) hx hb hts inw_CRd hown hK hP 0 rfl rfl 2 (by decide) (hts (.fieldLink R_CRd 25 "LikelyBits$CodedReader" "last" "I") mw_152) (fun _ h9 => h9) rfl d_CRd_byteIn_27 ?_
    refine lv_bipush (v := 8) hx hb d_CRd_byteIn_30 (by decide) ?_
    refine lv_ishl hx hb d_CRd_byteIn_32 ?_
    refine lv_iadd hx hb d_CRd_byteIn_33 ?_
    refine lv_topi (fun x14 ex14 => ?_)
    refine va_put (D := D) (ci := 5) (v := .int x14) (ty := .int) (C := R_CRd) (T := T_CRd) (N := 6) hx hb hts inw_CRd ty_CRd tyok_CRd nm_CRd hown hK hP hD hS 0 rfl rfl 3 (by decide) (hts (.fieldLink R_CRd 29 "LikelyBits$CodedReader" "value" "I") mw_158) (fun _ h9 => h9) rfl (by decide +kernel) rfl rfl (Nat.le_of_ble_eq_true rfl) d_CRd_byteIn_34 (fun H locs hP hD hS => ?_)
    have hP : va_P D vwCl [(h0, .inr (5, [.ref qs, .ref qc, .int r11, .int x14, .int sz, .int rm])), (qs, .inr (3, [.ref qr, .int pl, .int ln, .int cm_10])), (qr, .inr (0, [.ref qa, .int u])), (qa, .inl (k.1, n, .inl f))] H := hP
    have hD : va_D A [(h0, .inr (5, [.ref qs, .ref qc, .int r11, .int x14, .int sz, .int rm])), (qs, .inr (3, [.ref qr, .int pl, .int ln, .int cm_10])), (qr, .inr (0, [.ref qa, .int u])), (qa, .inl (k.1, n, .inl f))] := hD
    refine lv_aload_n hx hb d_CRd_byteIn_37 rfl (lv_at hl 0 rfl) ?_
    refine lv_bipush (v := 8) hx hb d_CRd_byteIn_38 (by decide) ?_
    refine va_put (D := D) (ci := 5) (v := .int 8) (ty := .int) (C := R_CRd) (T := T_CRd) (N := 6) hx hb hts inw_CRd ty_CRd tyok_CRd nm_CRd hown hK hP hD hS 0 rfl rfl 5 (by decide) (hts (.fieldLink R_CRd 39 "LikelyBits$CodedReader" "room" "I") mw_159) (fun _ h9 => h9) rfl (by decide +kernel) rfl rfl (Nat.le_of_ble_eq_true rfl) d_CRd_byteIn_40 (fun H locs hP hD hS => ?_)
    have hP : va_P D vwCl [(h0, .inr (5, [.ref qs, .ref qc, .int r11, .int x14, .int sz, .int 8])), (qs, .inr (3, [.ref qr, .int pl, .int ln, .int cm_10])), (qr, .inr (0, [.ref qa, .int u])), (qa, .inl (k.1, n, .inl f))] H := hP
    have hD : va_D A [(h0, .inr (5, [.ref qs, .ref qc, .int r11, .int x14, .int sz, .int 8])), (qs, .inr (3, [.ref qr, .int pl, .int ln, .int cm_10])), (qr, .inr (0, [.ref qa, .int u])), (qa, .inl (k.1, n, .inl f))] := hD
    refine lv_goto (tgt := 112) hx hb d_CRd_byteIn_43 (by decide) ?_
    exact krv (wo := wo_CRd_byteIn k h0 qs qr qa qc la va sz rm pl ln cm n f u L) hx hb hr hlk hP hD hS (r11, x14, 8, cm_10) () (by subst ex14; obtain ⟨rfl, rfl⟩ := hw12; simp [po_CRd_byteIn, rbi, c1]) trivial [0, 1, 2, 3] rfl (by decide) (Nat.le_of_ble_eq_true rfl) (Nat.le_of_ble_eq_true rfl) d_CRd_byteIn_112

def wo_CRd_begin (k : gK) (h0 qs qr qa : Nat) (qc : Nat) (la : Int32) (va : Int32) (sz : Int32) (rm : Int32) (pl : Int32) (ln : Int32) (cm : Int32) (n : Nat) (f : Nat → Int32) (u : Int32) (L : List Int32) (zz : Unit) (uu : Int32 × Int32 × Int32 × Int32) : va_W := match zz, uu with
  | _, (la2, va2, rm2, cm2) => [(h0, .inr (5, [.ref qs, .ref qc, .int la2, .int va2, .int 32768, .int rm2])), (qs, .inr (3, [.ref qr, .int pl, .int ln, .int cm2])), (qr, .inr (0, [.ref qa, .int u])), (qa, .inl (k.1, n, .inl f))]
def ex_CRd_begin (k : gK) (h0 qs qr qa : Nat) (qc : Nat) (la : Int32) (va : Int32) (sz : Int32) (rm : Int32) (pl : Int32) (ln : Int32) (cm : Int32) (n : Nat) (f : Nat → Int32) (u : Int32) (L : List Int32) (zz : Unit) (uu : Int32 × Int32 × Int32 × Int32) : Prop := match zz, uu with
  | _, (la2, va2, rm2, cm2) => True
def po_CRd_begin (k : gK) (h0 qs qr qa : Nat) (qc : Nat) (la : Int32) (va : Int32) (sz : Int32) (rm : Int32) (pl : Int32) (ln : Int32) (cm : Int32) (n : Nat) (f : Nat → Int32) (u : Int32) (L : List Int32) (uu : Int32 × Int32 × Int32 × Int32) : Prop := match uu with
  | (la2, va2, rm2, cm2) => la2 = (rbg L pl ln cm).1 ∧ va2 = (rbg L pl ln cm).2.1 ∧ rm2 = (rbg L pl ln cm).2.2.1 ∧ cm2 = (rbg L pl ln cm).2.2.2
def qc_CRd_begin (D : va_G) (k : gK) (h0 qs qr qa : Nat) (qc : Nat) (la : Int32) (va : Int32) (sz : Int32) (rm : Int32) (pl : Int32) (ln : Int32) (cm : Int32) (n : Nat) (f : Nat → Int32) (u : Int32) (L : List Int32) (A : Nat → Prop) : Array Value → State → Outcome → State → Prop := va_Qv (po_CRd_begin k h0 qs qr qa qc la va sz rm pl ln cm n f u L) (fun uu t => ∃ zz, ex_CRd_begin k h0 qs qr qa qc la va sz rm pl ln cm n f u L zz uu ∧ GP D A (wo_CRd_begin k h0 qs qr qa qc la va sz rm pl ln cm n f u L zz uu) t) A
set_option maxHeartbeats 1000000 in
set_option maxRecDepth 100000 in
theorem c_CRd_begin (l : Launch) (hl9 : l.stackTraces = false) (D : va_G) (k : gK) (h0 qs qr qa : Nat) (zsz : Nat) (qc : Nat) (la : Int32) (va : Int32) (sz : Int32) (rm : Int32) (pl : Int32) (ln : Int32) (cm : Int32) (n : Nat) (f : Nat → Int32) (u : Int32) (L : List Int32) (hR : row_ok n f u L) : Met l y_CRd_begin (.code y_CRd_begin b_CRd_begin 1 none :: AW) ({ frames := 4, cells := 0, slots := 0, locals := 82 }) (va_Pc [.ref h0] (GG D k [(h0, .inr (5, [.ref qs, .ref qc, .int la, .int va, .int sz, .int rm])), (qs, .inr (3, [.ref qr, .int pl, .int ln, .int cm])), (qr, .inr (0, [.ref qa, .int u])), (qa, .inl (k.1, n, .inl f))] zsz)) (qc_CRd_begin D k h0 qs qr qa qc la va sz rm pl ln cm n f u L (va_A [(h0, .inr (5, [.ref qs, .ref qc, .int la, .int va, .int sz, .int rm])), (qs, .inr (3, [.ref qr, .int pl, .int ln, .int cm])), (qr, .inr (0, [.ref qa, .int u])), (qa, .inl (k.1, n, .inl f))] zsz)) 0 0 (va_A [(h0, .inr (5, [.ref qs, .ref qc, .int la, .int va, .int sz, .int rm])), (qs, .inr (3, [.ref qr, .int pl, .int ln, .int cm])), (qr, .inr (0, [.ref qa, .int u])), (qa, .inl (k.1, n, .inl f))] zsz) := by
  refine kMet (ws := [(h0, .inr (5, [.ref qs, .ref qc, .int la, .int va, .int sz, .int rm])), (qs, .inr (3, [.ref qr, .int pl, .int ln, .int cm])), (qr, .inr (0, [.ref qa, .int u])), (qa, .inl (k.1, n, .inl f))]) (Qc := qc_CRd_begin D k h0 qs qr qa qc la va sz rm pl ln cm n f u L) (by decide) (Nat.le_of_ble_eq_true rfl) (fun p e s m below meth c ls A H Cc hP hD hA hS hl => ?_)
  obtain ⟨hx, hb, hml, hr, hlk, hown, hts, hK, hE, hin⟩ := Cc
  have hl : lv_has ls 1 [(0, .ref h0)] := hl
  refine lv_aload_n hx hb d_CRd_begin_0 rfl (lv_at hl 0 rfl) ?_
  refine lv_aload_n hx hb d_CRd_begin_1 rfl (lv_at hl 0 rfl) ?_
  refine va_get (D := D) (ci := 5) (v := .ref qs) (C := R_CRd) (T := T_CRd) (N := 6) hx hb hts inw_CRd hown hK hP 0 rfl rfl 0 (by decide) (hts (.fieldLink R_CRd 9 "LikelyBits$CodedReader" "source" "LLikelyBits$Source;") mw_150) (fun _ h9 => h9) rfl d_CRd_begin_2 ?_
  refine kci (wc := [(qs, .inr (3, [.ref qr, .int pl, .int ln, .int cm])), (qr, .inr (0, [.ref qa, .int u])), (qa, .inl (k.1, n, .inl f))]) (wr := [(h0, .inr (5, [.ref qs, .ref qc, .int la, .int va, .int sz, .int rm]))]) (va_runV (As := []) (rest := [.ref h0]) ⟨hx, hb, hml, hown, hts⟩ (c_Src_take l hl9 D k qs qr qa H.size pl ln cm n f u L (by assumption)) (cwV 0 hts (gV mw_154 mw_155 mw_156 mw_147 mw_157) rfl rfl rfl (by decide +kernel) ⟨(Nat.le_of_ble_eq_true rfl), (Nat.le_of_ble_eq_true rfl)⟩) (kRecv (q := (R_Src, T_Src, 4)) (q0 := 1) (ci := 3) hK hP rfl rfl (kPre (wc := [(qs, .inr (3, [.ref qr, .int pl, .int ln, .int cm])), (qr, .inr (0, [.ref qa, .int u])), (qa, .inl (k.1, n, .inl f))]) hE hK hP hD hS hA [1, 2, 3] rfl (by decide))) rfl rfl hl.1 rfl (lv_room (Nat.le_of_ble_eq_true rfl)) d_CRd_begin_5 ⟨(Nat.le_of_ble_eq_true rfl), (Nat.le_of_ble_eq_true rfl)⟩) hP hD hS hA [1, 2, 3] [0] rfl rfl (by decide) (by decide) (fun r2 zz uu H locs hw3 hz4 hP hD hS => ?_)
  obtain ⟨cm_1, rfl⟩ : ∃ y, y = uu := ⟨_, rfl⟩
  have hw3 : r2 = spk L pl ln cm ∧ cm_1 = scm ln cm := hw3
  have hP : va_P D vwCl [(h0, .inr (5, [.ref qs, .ref qc, .int la, .int va, .int sz, .int rm])), (qs, .inr (3, [.ref qr, .int pl, .int ln, .int cm_1])), (qr, .inr (0, [.ref qa, .int u])), (qa, .inl (k.1, n, .inl f))] H := hP
  have hD : va_D A [(h0, .inr (5, [.ref qs, .ref qc, .int la, .int va, .int sz, .int rm])), (qs, .inr (3, [.ref qr, .int pl, .int ln, .int cm_1])), (qr, .inr (0, [.ref qa, .int u])), (qa, .inl (k.1, n, .inl f))] := hD
  refine va_put (D := D) (ci := 5) (v := .int r2) (ty := .int) (C := R_CRd) (T := T_CRd) (N := 6) hx hb hts inw_CRd ty_CRd tyok_CRd nm_CRd hown hK hP hD hS 0 rfl rfl 2 (by decide) (hts (.fieldLink R_CRd 25 "LikelyBits$CodedReader" "last" "I") mw_152) (fun _ h9 => h9) rfl (by decide +kernel) rfl rfl (Nat.le_of_ble_eq_true rfl) d_CRd_begin_8 (fun H locs hP hD hS => ?_)
  have hP : va_P D vwCl [(h0, .inr (5, [.ref qs, .ref qc, .int r2, .int va, .int sz, .int rm])), (qs, .inr (3, [.ref qr, .int pl, .int ln, .int cm_1])), (qr, .inr (0, [.ref qa, .int u])), (qa, .inl (k.1, n, .inl f))] H := hP
  have hD : va_D A [(h0, .inr (5, [.ref qs, .ref qc, .int r2, .int va, .int sz, .int rm])), (qs, .inr (3, [.ref qr, .int pl, .int ln, .int cm_1])), (qr, .inr (0, [.ref qa, .int u])), (qa, .inl (k.1, n, .inl f))] := hD
  refine lv_aload_n hx hb d_CRd_begin_11 rfl (lv_at hl 0 rfl) ?_
  refine lv_aload_n hx hb d_CRd_begin_12 rfl (lv_at hl 0 rfl) ?_
  refine va_get (D := D) (ci := 5) (v := .int r2) (C := R_CRd) (T := T_CRd) (N := 6) hx hb hts inw_CRd hown hK hP 0 rfl rfl 2 (by decide) (hts (.fieldLink R_CRd 25 "LikelyBits$CodedReader" "last" "I") mw_152) (fun _ h9 => h9) rfl d_CRd_begin_13 ?_
  refine lv_bipush (v := 16) hx hb d_CRd_begin_16 (by decide) ?_
  refine lv_ishl hx hb d_CRd_begin_18 ?_
  refine lv_topi (fun x5 ex5 => ?_)
  refine va_put (D := D) (ci := 5) (v := .int x5) (ty := .int) (C := R_CRd) (T := T_CRd) (N := 6) hx hb hts inw_CRd ty_CRd tyok_CRd nm_CRd hown hK hP hD hS 0 rfl rfl 3 (by decide) (hts (.fieldLink R_CRd 29 "LikelyBits$CodedReader" "value" "I") mw_158) (fun _ h9 => h9) rfl (by decide +kernel) rfl rfl (Nat.le_of_ble_eq_true rfl) d_CRd_begin_19 (fun H locs hP hD hS => ?_)
  have hP : va_P D vwCl [(h0, .inr (5, [.ref qs, .ref qc, .int r2, .int x5, .int sz, .int rm])), (qs, .inr (3, [.ref qr, .int pl, .int ln, .int cm_1])), (qr, .inr (0, [.ref qa, .int u])), (qa, .inl (k.1, n, .inl f))] H := hP
  have hD : va_D A [(h0, .inr (5, [.ref qs, .ref qc, .int r2, .int x5, .int sz, .int rm])), (qs, .inr (3, [.ref qr, .int pl, .int ln, .int cm_1])), (qr, .inr (0, [.ref qa, .int u])), (qa, .inl (k.1, n, .inl f))] := hD
  refine lv_aload_n hx hb d_CRd_begin_22 rfl (lv_at hl 0 rfl) ?_
  refine lv_ldc (v := 32768) hx hb hown (hts (.constant R_CRd 32 32768) mw_161) d_CRd_begin_23 ?_
  refine va_put (D := D) (ci := 5) (v := .int 32768) (ty := .int) (C := R_CRd) (T := T_CRd) (N := 6) hx hb hts inw_CRd ty_CRd tyok_CRd nm_CRd hown hK hP hD hS 0 rfl rfl 4 (by decide) (hts (.fieldLink R_CRd 33 "LikelyBits$CodedReader" "size" "I") mw_162) (fun _ h9 => h9) rfl (by decide +kernel) rfl rfl (Nat.le_of_ble_eq_true rfl) d_CRd_begin_25 (fun H locs hP hD hS => ?_)
  have hP : va_P D vwCl [(h0, .inr (5, [.ref qs, .ref qc, .int r2, .int x5, .int 32768, .int rm])), (qs, .inr (3, [.ref qr, .int pl, .int ln, .int cm_1])), (qr, .inr (0, [.ref qa, .int u])), (qa, .inl (k.1, n, .inl f))] H := hP
  have hD : va_D A [(h0, .inr (5, [.ref qs, .ref qc, .int r2, .int x5, .int 32768, .int rm])), (qs, .inr (3, [.ref qr, .int pl, .int ln, .int cm_1])), (qr, .inr (0, [.ref qa, .int u])), (qa, .inl (k.1, n, .inl f))] := hD
  refine lv_aload_n hx hb d_CRd_begin_28 rfl (lv_at hl 0 rfl) ?_
  refine kcv (wc := [(h0, .inr (5, [.ref qs, .ref qc, .int r2, .int x5, .int 32768, .int rm])), (qs, .inr (3, [.ref qr, .int pl, .int ln, .int cm_1])), (qr, .inr (0, [.ref qa, .int u])), (qa, .inl (k.1, n, .inl f))]) (wr := []) (va_runV (As := []) (rest := []) ⟨hx, hb, hml, hown, hts⟩ (c_CRd_byteIn l hl9 D k h0 qs qr qa H.size qc r2 x5 32768 rm pl ln cm_1 n f u L (by assumption)) (cwV 0 hts (gV mw_163 mw_164 mw_165 mw_166 mw_167) rfl rfl rfl (by decide +kernel) ⟨(Nat.le_of_ble_eq_true rfl), (Nat.le_of_ble_eq_true rfl)⟩) (kRecv (q := (R_CRd, T_CRd, 6)) (q0 := 0) (ci := 5) hK hP rfl rfl (kPre (wc := [(h0, .inr (5, [.ref qs, .ref qc, .int r2, .int x5, .int 32768, .int rm])), (qs, .inr (3, [.ref qr, .int pl, .int ln, .int cm_1])), (qr, .inr (0, [.ref qa, .int u])), (qa, .inl (k.1, n, .inl f))]) hE hK hP hD hS hA [0, 1, 2, 3] rfl (by decide))) rfl rfl hl.1 rfl (lv_room (Nat.le_of_ble_eq_true rfl)) d_CRd_begin_29 ⟨(Nat.le_of_ble_eq_true rfl), (Nat.le_of_ble_eq_true rfl)⟩) hP hD hS hA [0, 1, 2, 3] [] rfl rfl (by decide) (by decide) (fun zz uu H locs hw11 hz12 hP hD hS => ?_)
  obtain ⟨la_6, va_7, rm_8, cm_9⟩ := uu
  have hw11 : la_6 = (rbi L pl ln r2 x5 cm_1).1 ∧ va_7 = (rbi L pl ln r2 x5 cm_1).2.1 ∧ rm_8 = (rbi L pl ln r2 x5 cm_1).2.2.1 ∧ cm_9 = (rbi L pl ln r2 x5 cm_1).2.2.2 := hw11
  have hP : va_P D vwCl [(h0, .inr (5, [.ref qs, .ref qc, .int la_6, .int va_7, .int 32768, .int rm_8])), (qs, .inr (3, [.ref qr, .int pl, .int ln, .int cm_9])), (qr, .inr (0, [.ref qa, .int u])), (qa, .inl (k.1, n, .inl f))] H := hP
  have hD : va_D A [(h0, .inr (5, [.ref qs, .ref qc, .int la_6, .int va_7, .int 32768, .int rm_8])), (qs, .inr (3, [.ref qr, .int pl, .int ln, .int cm_9])), (qr, .inr (0, [.ref qa, .int u])), (qa, .inl (k.1, n, .inl f))] := hD
  refine lv_aload_n hx hb d_CRd_begin_32 rfl (lv_at hl 0 rfl) ?_
  refine lv_dup hx hb d_CRd_begin_33 rfl ?_
  refine va_get (D := D) (ci := 5) (v := .int va_7) (C := R_CRd) (T := T_CRd) (N := 6) hx hb hts inw_CRd hown hK hP 0 rfl rfl 3 (by decide) (hts (.fieldLink R_CRd 29 "LikelyBits$CodedReader" "value" "I") mw_158) (fun _ h9 => h9) rfl d_CRd_begin_34 ?_
  refine lv_bipush (v := 7) hx hb d_CRd_begin_37 (by decide) ?_
  refine lv_ishl hx hb d_CRd_begin_39 ?_
  refine lv_topi (fun x13 ex13 => ?_)
  refine va_put (D := D) (ci := 5) (v := .int x13) (ty := .int) (C := R_CRd) (T := T_CRd) (N := 6) hx hb hts inw_CRd ty_CRd tyok_CRd nm_CRd hown hK hP hD hS 0 rfl rfl 3 (by decide) (hts (.fieldLink R_CRd 29 "LikelyBits$CodedReader" "value" "I") mw_158) (fun _ h9 => h9) rfl (by decide +kernel) rfl rfl (Nat.le_of_ble_eq_true rfl) d_CRd_begin_40 (fun H locs hP hD hS => ?_)
  have hP : va_P D vwCl [(h0, .inr (5, [.ref qs, .ref qc, .int la_6, .int x13, .int 32768, .int rm_8])), (qs, .inr (3, [.ref qr, .int pl, .int ln, .int cm_9])), (qr, .inr (0, [.ref qa, .int u])), (qa, .inl (k.1, n, .inl f))] H := hP
  have hD : va_D A [(h0, .inr (5, [.ref qs, .ref qc, .int la_6, .int x13, .int 32768, .int rm_8])), (qs, .inr (3, [.ref qr, .int pl, .int ln, .int cm_9])), (qr, .inr (0, [.ref qa, .int u])), (qa, .inl (k.1, n, .inl f))] := hD
  refine lv_aload_n hx hb d_CRd_begin_43 rfl (lv_at hl 0 rfl) ?_
  refine lv_dup hx hb d_CRd_begin_44 rfl ?_
  refine va_get (D := D) (ci := 5) (v := .int rm_8) (C := R_CRd) (T := T_CRd) (N := 6) hx hb hts inw_CRd hown hK hP 0 rfl rfl 5 (by decide) (hts (.fieldLink R_CRd 39 "LikelyBits$CodedReader" "room" "I") mw_159) (fun _ h9 => h9) rfl d_CRd_begin_45 ?_
  refine lv_bipush (v := 7) hx hb d_CRd_begin_48 (by decide) ?_
  refine lv_isub hx hb d_CRd_begin_50 ?_
  refine lv_topi (fun x14 ex14 => ?_)
  refine va_put (D := D) (ci := 5) (v := .int x14) (ty := .int) (C := R_CRd) (T := T_CRd) (N := 6) hx hb hts inw_CRd ty_CRd tyok_CRd nm_CRd hown hK hP hD hS 0 rfl rfl 5 (by decide) (hts (.fieldLink R_CRd 39 "LikelyBits$CodedReader" "room" "I") mw_159) (fun _ h9 => h9) rfl (by decide +kernel) rfl rfl (Nat.le_of_ble_eq_true rfl) d_CRd_begin_51 (fun H locs hP hD hS => ?_)
  have hP : va_P D vwCl [(h0, .inr (5, [.ref qs, .ref qc, .int la_6, .int x13, .int 32768, .int x14])), (qs, .inr (3, [.ref qr, .int pl, .int ln, .int cm_9])), (qr, .inr (0, [.ref qa, .int u])), (qa, .inl (k.1, n, .inl f))] H := hP
  have hD : va_D A [(h0, .inr (5, [.ref qs, .ref qc, .int la_6, .int x13, .int 32768, .int x14])), (qs, .inr (3, [.ref qr, .int pl, .int ln, .int cm_9])), (qr, .inr (0, [.ref qa, .int u])), (qa, .inl (k.1, n, .inl f))] := hD
  exact krv (wo := wo_CRd_begin k h0 qs qr qa qc la va sz rm pl ln cm n f u L) hx hb hr hlk hP hD hS (la_6, x13, x14, cm_9) () (by subst ex14; subst ex13; obtain ⟨rfl, rfl, rfl, rfl⟩ := hw11; subst ex5; obtain ⟨rfl, rfl⟩ := hw3; simp [po_CRd_begin, rbg]) trivial [0, 1, 2, 3] rfl (by decide) (Nat.le_of_ble_eq_true rfl) (Nat.le_of_ble_eq_true rfl) d_CRd_begin_54

def wo_CRd_enlarge (k : gK) (h0 qs qr qa : Nat) (qc : Nat) (la : Int32) (va : Int32) (sz : Int32) (rm : Int32) (pl : Int32) (ln : Int32) (cm : Int32) (n : Nat) (f : Nat → Int32) (u : Int32) (L : List Int32) (zz : Unit) (uu : Int32 × Int32 × Int32 × Int32 × Int32) : va_W := match zz, uu with
  | _, (la2, va2, sz2, rm2, cm2) => [(h0, .inr (5, [.ref qs, .ref qc, .int la2, .int va2, .int sz2, .int rm2])), (qs, .inr (3, [.ref qr, .int pl, .int ln, .int cm2])), (qr, .inr (0, [.ref qa, .int u])), (qa, .inl (k.1, n, .inl f))]
def ex_CRd_enlarge (k : gK) (h0 qs qr qa : Nat) (qc : Nat) (la : Int32) (va : Int32) (sz : Int32) (rm : Int32) (pl : Int32) (ln : Int32) (cm : Int32) (n : Nat) (f : Nat → Int32) (u : Int32) (L : List Int32) (zz : Unit) (uu : Int32 × Int32 × Int32 × Int32 × Int32) : Prop := match zz, uu with
  | _, (la2, va2, sz2, rm2, cm2) => True
def po_CRd_enlarge (k : gK) (h0 qs qr qa : Nat) (qc : Nat) (la : Int32) (va : Int32) (sz : Int32) (rm : Int32) (pl : Int32) (ln : Int32) (cm : Int32) (n : Nat) (f : Nat → Int32) (u : Int32) (L : List Int32) (uu : Int32 × Int32 × Int32 × Int32 × Int32) : Prop := match uu with
  | (la2, va2, sz2, rm2, cm2) => la2 = (ren 15 L pl ln la va sz rm cm).1 ∧ va2 = (ren 15 L pl ln la va sz rm cm).2.1 ∧ sz2 = (ren 15 L pl ln la va sz rm cm).2.2.1 ∧ rm2 = (ren 15 L pl ln la va sz rm cm).2.2.2.1 ∧ cm2 = (ren 15 L pl ln la va sz rm cm).2.2.2.2
def qc_CRd_enlarge (D : va_G) (k : gK) (h0 qs qr qa : Nat) (qc : Nat) (la : Int32) (va : Int32) (sz : Int32) (rm : Int32) (pl : Int32) (ln : Int32) (cm : Int32) (n : Nat) (f : Nat → Int32) (u : Int32) (L : List Int32) (A : Nat → Prop) : Array Value → State → Outcome → State → Prop := va_Qv (po_CRd_enlarge k h0 qs qr qa qc la va sz rm pl ln cm n f u L) (fun uu t => ∃ zz, ex_CRd_enlarge k h0 qs qr qa qc la va sz rm pl ln cm n f u L zz uu ∧ GP D A (wo_CRd_enlarge k h0 qs qr qa qc la va sz rm pl ln cm n f u L zz uu) t) A
set_option maxHeartbeats 1000000 in
set_option maxRecDepth 100000 in
theorem lp_CRd_enlarge_2 (l : Launch) (hl9 : l.stackTraces = false) (D : va_G) (k : gK) (h0 qs qr qa : Nat) (qc : Nat) (la : Int32) (va : Int32) (sz : Int32) (rm : Int32) (pl : Int32) (ln : Int32) (cm : Int32) (n : Nat) (f : Nat → Int32) (u : Int32) (L : List Int32) {p : Program} {e : Env} {s : State} {m : MethodId} {below : List Frame} {meth : Method} {c : Code} {A : Nat → Prop} (Cc : Cx p s m ([.ref h0] : List Value).toArray meth c b_CRd_enlarge 2 none y_CRd_enlarge.cls y_CRd_enlarge.name D k A) (hA : ∀ q : Nat, s.heap.size ≤ q → A q) :
    ∀ (t : Nat) (i1 : Int32) (la1 : Int32) (va1 : Int32) (sz1 : Int32) (rm1 : Int32) (cm1 : Int32), (row_ok n f u L) → (ren 15 L pl ln la va sz rm cm = ren t L pl ln la1 va1 sz1 rm1 cm1) → (i1 = nI (15 - t)) → (t ≤ 15) → ∀ (H : Heap) (locs : List Loc) (cells slots : Nat), cells = 0 ∧ slots = 0 → va_P D vwCl [(h0, .inr (5, [.ref qs, .ref qc, .int la1, .int va1, .int sz1, .int rm1])), (qs, .inr (3, [.ref qr, .int pl, .int ln, .int cm1])), (qr, .inr (0, [.ref qa, .int u])), (qa, .inl (k.1, n, .inl f))] H → va_D A [(h0, .inr (5, [.ref qs, .ref qc, .int la1, .int va1, .int sz1, .int rm1])), (qs, .inr (3, [.ref qr, .int pl, .int ln, .int cm1])), (qr, .inr (0, [.ref qa, .int u])), (qa, .inl (k.1, n, .inl f))] → va_S A s.heap H locs → ∀ ls : Array Slot, lv_has ls 2 [(1, .int i1), (0, .ref h0)] → W p l e ({ frames := 4, cells := 0, slots := 0, locals := 82 }) s m ([.ref h0] : List Value).toArray below meth c H locs cells slots (MQ below (qc_CRd_enlarge D k h0 qs qr qa qc la va sz rm pl ln cm n f u L A) ([.ref h0] : List Value).toArray s 0 0 A) (F0 m 2 ls []) := by
  have Cc9 := Cc
  obtain ⟨hx, hb, hml, hr, hlk, hown, hts, hK, hE, hin⟩ := Cc
  intro t
  induction t with
  | zero =>
    intro i1 la1 va1 sz1 rm1 cm1 hR hF hi ht H locs cells slots hrm hP hD hS ls hl
    refine lv_iload_n hx hb d_CRd_enlarge_2 rfl (lv_at hl 0 rfl) ?_
    refine lv_bipush (v := 15) hx hb d_CRd_enlarge_3 (by decide) ?_
    refine lv_icmp_ge (tgt := 64) hx hb d_CRd_enlarge_5 (by decide) (fun c1 => ?_) (fun c1 => ?_)
    · exact krv (wo := wo_CRd_enlarge k h0 qs qr qa qc la va sz rm pl ln cm n f u L) hx hb hr hlk hP hD hS (la1, va1, sz1, rm1, cm1) () (by simp only [po_CRd_enlarge]; rw [hF]; simp [ren]) trivial [0, 1, 2, 3] rfl (by decide) (by omega) (by omega) d_CRd_enlarge_64
    · exact absurd (by rw [hi]; decide) c1
  | succ t ih =>
    intro i1 la1 va1 sz1 rm1 cm1 hR hF hi ht H locs cells slots hrm hP hD hS ls hl
    refine lv_iload_n hx hb d_CRd_enlarge_2 rfl (lv_at hl 0 rfl) ?_
    refine lv_bipush (v := 15) hx hb d_CRd_enlarge_3 (by decide) ?_
    refine lv_icmp_ge (tgt := 64) hx hb d_CRd_enlarge_5 (by decide) (fun c2 => ?_) (fun c2 => ?_)
    · exact absurd (by rw [hi] at c2; exact c2) (i_15 (by omega))
    · refine lv_aload_n hx hb d_CRd_enlarge_8 rfl (lv_at hl 1 rfl) ?_
      refine va_get (D := D) (ci := 5) (v := .int sz1) (C := R_CRd) (T := T_CRd) (N := 6) hx hb hts inw_CRd hown hK hP 0 rfl rfl 4 (by decide) (hts (.fieldLink R_CRd 33 "LikelyBits$CodedReader" "size" "I") mw_162) (fun _ h9 => h9) rfl d_CRd_enlarge_9 ?_
      refine lv_ldc (v := 32768) hx hb hown (hts (.constant R_CRd 32 32768) mw_161) d_CRd_enlarge_12 ?_
      refine lv_icmp_ge (tgt := 64) hx hb d_CRd_enlarge_14 (by decide) (fun c3 => ?_) (fun c3 => ?_)
      · exact krv (wo := wo_CRd_enlarge k h0 qs qr qa qc la va sz rm pl ln cm n f u L) hx hb hr hlk hP hD hS (la1, va1, sz1, rm1, cm1) () (by simp only [po_CRd_enlarge]; rw [hF, ren, if_pos c3]; simp) trivial [0, 1, 2, 3] rfl (by decide) (by omega) (by omega) d_CRd_enlarge_64
      · refine lv_aload_n hx hb d_CRd_enlarge_17 rfl (lv_at hl 1 rfl) ?_
        refine va_get (D := D) (ci := 5) (v := .int rm1) (C := R_CRd) (T := T_CRd) (N := 6) hx hb hts inw_CRd hown hK hP 0 rfl rfl 5 (by decide) (hts (.fieldLink R_CRd 39 "LikelyBits$CodedReader" "room" "I") mw_159) (fun _ h9 => h9) rfl d_CRd_enlarge_18 ?_
        refine lv_if_ne (tgt := 28) hx hb d_CRd_enlarge_21 (by decide) (fun c4 => ?_) (fun c4 => ?_)
        · refine lv_aload_n hx hb d_CRd_enlarge_28 rfl (lv_at hl 1 rfl) ?_
          refine lv_dup hx hb d_CRd_enlarge_29 rfl ?_
          refine va_get (D := D) (ci := 5) (v := .int sz1) (C := R_CRd) (T := T_CRd) (N := 6) hx hb hts inw_CRd hown hK hP 0 rfl rfl 4 (by decide) (hts (.fieldLink R_CRd 33 "LikelyBits$CodedReader" "size" "I") mw_162) (fun _ h9 => h9) rfl d_CRd_enlarge_30 ?_
          refine lv_iconst (v := 2) hx hb d_CRd_enlarge_33 (by decide) ?_
          refine lv_imul hx hb d_CRd_enlarge_34 ?_
          refine lv_topi (fun x5 ex5 => ?_)
          refine va_put (D := D) (ci := 5) (v := .int x5) (ty := .int) (C := R_CRd) (T := T_CRd) (N := 6) hx hb hts inw_CRd ty_CRd tyok_CRd nm_CRd hown hK hP hD hS 0 rfl rfl 4 (by decide) (hts (.fieldLink R_CRd 33 "LikelyBits$CodedReader" "size" "I") mw_162) (fun _ h9 => h9) rfl (by decide +kernel) rfl rfl (Nat.le_of_ble_eq_true rfl) d_CRd_enlarge_35 (fun H locs hP hD hS => ?_)
          have hP : va_P D vwCl [(h0, .inr (5, [.ref qs, .ref qc, .int la1, .int va1, .int x5, .int rm1])), (qs, .inr (3, [.ref qr, .int pl, .int ln, .int cm1])), (qr, .inr (0, [.ref qa, .int u])), (qa, .inl (k.1, n, .inl f))] H := hP
          have hD : va_D A [(h0, .inr (5, [.ref qs, .ref qc, .int la1, .int va1, .int x5, .int rm1])), (qs, .inr (3, [.ref qr, .int pl, .int ln, .int cm1])), (qr, .inr (0, [.ref qa, .int u])), (qa, .inl (k.1, n, .inl f))] := hD
          refine lv_aload_n hx hb d_CRd_enlarge_38 rfl (lv_at hl 1 rfl) ?_
          refine lv_dup hx hb d_CRd_enlarge_39 rfl ?_
          refine va_get (D := D) (ci := 5) (v := .int va1) (C := R_CRd) (T := T_CRd) (N := 6) hx hb hts inw_CRd hown hK hP 0 rfl rfl 3 (by decide) (hts (.fieldLink R_CRd 29 "LikelyBits$CodedReader" "value" "I") mw_158) (fun _ h9 => h9) rfl d_CRd_enlarge_40 ?_
          refine lv_iconst (v := 2) hx hb d_CRd_enlarge_43 (by decide) ?_
          refine lv_imul hx hb d_CRd_enlarge_44 ?_
          refine lv_topi (fun x6 ex6 => ?_)
          refine va_put (D := D) (ci := 5) (v := .int x6) (ty := .int) (C := R_CRd) (T := T_CRd) (N := 6) hx hb hts inw_CRd ty_CRd tyok_CRd nm_CRd hown hK hP hD hS 0 rfl rfl 3 (by decide) (hts (.fieldLink R_CRd 29 "LikelyBits$CodedReader" "value" "I") mw_158) (fun _ h9 => h9) rfl (by decide +kernel) rfl rfl (Nat.le_of_ble_eq_true rfl) d_CRd_enlarge_45 (fun H locs hP hD hS => ?_)
          have hP : va_P D vwCl [(h0, .inr (5, [.ref qs, .ref qc, .int la1, .int x6, .int x5, .int rm1])), (qs, .inr (3, [.ref qr, .int pl, .int ln, .int cm1])), (qr, .inr (0, [.ref qa, .int u])), (qa, .inl (k.1, n, .inl f))] H := hP
          have hD : va_D A [(h0, .inr (5, [.ref qs, .ref qc, .int la1, .int x6, .int x5, .int rm1])), (qs, .inr (3, [.ref qr, .int pl, .int ln, .int cm1])), (qr, .inr (0, [.ref qa, .int u])), (qa, .inl (k.1, n, .inl f))] := hD
          refine lv_aload_n hx hb d_CRd_enlarge_48 rfl (lv_at hl 1 rfl) ?_
          refine lv_dup hx hb d_CRd_enlarge_49 rfl ?_
          refine va_get (D := D) (ci := 5) (v := .int rm1) (C := R_CRd) (T := T_CRd) (N := 6) hx hb hts inw_CRd hown hK hP 0 rfl rfl 5 (by decide) (hts (.fieldLink R_CRd 39 "LikelyBits$CodedReader" "room" "I") mw_159) (fun _ h9 => h9) rfl d_CRd_enlarge_50 ?_
          refine lv_iconst (v := 1) hx hb d_CRd_enlarge_53 (by decide) ?_
          refine lv_isub hx hb d_CRd_enlarge_54 ?_
          refine lv_topi (fun x7 ex7 => ?_)
          refine va_put (D := D) (ci := 5) (v := .int x7) (ty := .int) (C := R_CRd) (T := T_CRd) (N := 6) hx hb hts inw_CRd ty_CRd tyok_CRd nm_CRd hown hK hP hD hS 0 rfl rfl 5 (by decide) (hts (.fieldLink R_CRd 39 "LikelyBits$CodedReader" "room" "I") mw_159) (fun _ h9 => h9) rfl (by decide +kernel) rfl rfl (Nat.le_of_ble_eq_true rfl) d_CRd_enlarge_55 (fun H locs hP hD hS => ?_)
          have hP : va_P D vwCl [(h0, .inr (5, [.ref qs, .ref qc, .int la1, .int x6, .int x5, .int x7])), (qs, .inr (3, [.ref qr, .int pl, .int ln, .int cm1])), (qr, .inr (0, [.ref qa, .int u])), (qa, .inl (k.1, n, .inl f))] H := hP
          have hD : va_D A [(h0, .inr (5, [.ref qs, .ref qc, .int la1, .int x6, .int x5, .int x7])), (qs, .inr (3, [.ref qr, .int pl, .int ln, .int cm1])), (qr, .inr (0, [.ref qa, .int u])), (qa, .inl (k.1, n, .inl f))] := hD
          obtain ⟨x8, ex8⟩ : ∃ y : Int32, y = i1 + 1 := ⟨_, rfl⟩
          refine lv_iinc (v := x8) (lv' := [(1, .int x8), (0, .ref h0)]) hx hb d_CRd_enlarge_58 hl (k := 0) rfl (by rw [ex8]; rfl) (by decide) rfl (fun ls hl => ?_)
          refine lv_goto (tgt := 2) hx hb d_CRd_enlarge_61 (by decide) ?_
          exact ih x8 la1 x6 x5 x7 cm1 hR (by subst ex8; subst ex7; subst ex6; subst ex5; rw [hF, ren, if_neg c3, if_neg c4]) (by rw [ex8, hi, show 15 - t = (15 - (t + 1)) + 1 by omega]; exact nI_1 _) (by omega) H _ _ _ (by exact ⟨by omega, by omega⟩) (ka_P hP (is := [0, 1, 2, 3]) rfl) (hD.sub [0, 1, 2, 3] (by decide) rfl) hS ls (lv_sub hl [0, 1] rfl)
        · refine lv_aload_n hx hb d_CRd_enlarge_24 rfl (lv_at hl 1 rfl) ?_
          refine kcv (wc := [(h0, .inr (5, [.ref qs, .ref qc, .int la1, .int va1, .int sz1, .int rm1])), (qs, .inr (3, [.ref qr, .int pl, .int ln, .int cm1])), (qr, .inr (0, [.ref qa, .int u])), (qa, .inl (k.1, n, .inl f))]) (wr := []) (va_runV (As := []) (rest := []) ⟨hx, hb, hml, hown, hts⟩ (c_CRd_byteIn l hl9 D k h0 qs qr qa H.size qc la1 va1 sz1 rm1 pl ln cm1 n f u L (by assumption)) (cwV 0 hts (gV mw_163 mw_164 mw_165 mw_166 mw_167) rfl rfl rfl (by decide +kernel) ⟨(Nat.le_of_ble_eq_true rfl), (Nat.le_of_ble_eq_true rfl)⟩) (kRecv (q := (R_CRd, T_CRd, 6)) (q0 := 0) (ci := 5) hK hP rfl rfl (kPre (wc := [(h0, .inr (5, [.ref qs, .ref qc, .int la1, .int va1, .int sz1, .int rm1])), (qs, .inr (3, [.ref qr, .int pl, .int ln, .int cm1])), (qr, .inr (0, [.ref qa, .int u])), (qa, .inl (k.1, n, .inl f))]) hE hK hP hD hS hA [0, 1, 2, 3] rfl (by decide))) rfl rfl hl.1 rfl (lv_room (Nat.le_of_ble_eq_true rfl)) d_CRd_enlarge_25 ⟨(by first | omega | (dsimp only; omega)), (by first | omega | (dsimp only; omega))⟩) hP hD hS hA [0, 1, 2, 3] [] rfl rfl (by decide) (by decide) (fun zz uu H locs hw14 hz15 hP hD hS => ?_)
          obtain ⟨la_9, va_10, rm_11, cm_12⟩ := uu
          have hw14 : la_9 = (rbi L pl ln la1 va1 cm1).1 ∧ va_10 = (rbi L pl ln la1 va1 cm1).2.1 ∧ rm_11 = (rbi L pl ln la1 va1 cm1).2.2.1 ∧ cm_12 = (rbi L pl ln la1 va1 cm1).2.2.2 := hw14
          have hP : va_P D vwCl [(h0, .inr (5, [.ref qs, .ref qc, .int la_9, .int va_10, .int sz1, .int rm_11])), (qs, .inr (3, [.ref qr, .int pl, .int ln, .int cm_12])), (qr, .inr (0, [.ref qa, .int u])), (qa, .inl (k.1, n, .inl f))] H := hP
          have hD : va_D A [(h0, .inr (5, [.ref qs, .ref qc, .int la_9, .int va_10, .int sz1, .int rm_11])), (qs, .inr (3, [.ref qr, .int pl, .int ln, .int cm_12])), (qr, .inr (0, [.ref qa, .int u])), (qa, .inl (k.1, n, .inl f))] := hD
          refine lv_aload_n hx hb d_CRd_enlarge_28 rfl (lv_at hl 1 rfl) ?_
          refine lv_dup hx hb d_CRd_enlarge_29 rfl ?_
          refine va_get (D := D) (ci := 5) (v := .int sz1) (C := R_CRd) (T := T_CRd) (N := 6) hx hb hts inw_CRd hown hK hP 0 rfl rfl 4 (by decide) (hts (.fieldLink R_CRd 33 "LikelyBits$CodedReader" "size" "I") mw_162) (fun _ h9 => h9) rfl d_CRd_enlarge_30 ?_
          refine lv_iconst (v := 2) hx hb d_CRd_enlarge_33 (by decide) ?_
          refine lv_imul hx hb d_CRd_enlarge_34 ?_
          refine lv_topi (fun x16 ex16 => ?_)
          refine va_put (D := D) (ci := 5) (v := .int x16) (ty := .int) (C := R_CRd) (T := T_CRd) (N := 6) hx hb hts inw_CRd ty_CRd tyok_CRd nm_CRd hown hK hP hD hS 0 rfl rfl 4 (by decide) (hts (.fieldLink R_CRd 33 "LikelyBits$CodedReader" "size" "I") mw_162) (fun _ h9 => h9) rfl (by decide +kernel) rfl rfl (Nat.le_of_ble_eq_true rfl) d_CRd_enlarge_35 (fun H locs hP hD hS => ?_)
          have hP : va_P D vwCl [(h0, .inr (5, [.ref qs, .ref qc, .int la_9, .int va_10, .int x16, .int rm_11])), (qs, .inr (3, [.ref qr, .int pl, .int ln, .int cm_12])), (qr, .inr (0, [.ref qa, .int u])), (qa, .inl (k.1, n, .inl f))] H := hP
          have hD : va_D A [(h0, .inr (5, [.ref qs, .ref qc, .int la_9, .int va_10, .int x16, .int rm_11])), (qs, .inr (3, [.ref qr, .int pl, .int ln, .int cm_12])), (qr, .inr (0, [.ref qa, .int u])), (qa, .inl (k.1, n, .inl f))] := hD
          refine lv_aload_n hx hb d_CRd_enlarge_38 rfl (lv_at hl 1 rfl) ?_
          refine lv_dup hx hb d_CRd_enlarge_39 rfl ?_
          refine va_get (D := D) (ci := 5) (v := .int va_10) (C := R_CRd) (T := T_CRd) (N := 6) hx hb hts inw_CRd hown hK hP 0 rfl rfl 3 (by decide) (hts (.fieldLink R_CRd 29 "LikelyBits$CodedReader" "value" "I") mw_158) (fun _ h9 => h9) rfl d_CRd_enlarge_40 ?_
          refine lv_iconst (v := 2) hx hb d_CRd_enlarge_43 (by decide) ?_
          refine lv_imul hx hb d_CRd_enlarge_44 ?_
          refine lv_topi (fun x17 ex17 => ?_)
          refine va_put (D := D) (ci := 5) (v := .int x17) (ty := .int) (C := R_CRd) (T := T_CRd) (N := 6) hx hb hts inw_CRd ty_CRd tyok_CRd nm_CRd hown hK hP hD hS 0 rfl rfl 3 (by decide) (hts (.fieldLink R_CRd 29 "LikelyBits$CodedReader" "value" "I") mw_158) (fun _ h9 => h9) rfl (by decide +kernel) rfl rfl (Nat.le_of_ble_eq_true rfl) d_CRd_enlarge_45 (fun H locs hP hD hS => ?_)
          have hP : va_P D vwCl [(h0, .inr (5, [.ref qs, .ref qc, .int la_9, .int x17, .int x16, .int rm_11])), (qs, .inr (3, [.ref qr, .int pl, .int ln, .int cm_12])), (qr, .inr (0, [.ref qa, .int u])), (qa, .inl (k.1, n, .inl f))] H := hP
          have hD : va_D A [(h0, .inr (5, [.ref qs, .ref qc, .int la_9, .int x17, .int x16, .int rm_11])), (qs, .inr (3, [.ref qr, .int pl, .int ln, .int cm_12])), (qr, .inr (0, [.ref qa, .int u])), (qa, .inl (k.1, n, .inl f))] := hD
          refine lv_aload_n hx hb d_CRd_enlarge_48 rfl (lv_at hl 1 rfl) ?_
          refine lv_dup hx hb d_CRd_enlarge_49 rfl ?_
          refine va_get (D := D) (ci := 5) (v := .int rm_11) (C := R_CRd) (T := T_CRd) (N := 6) hx hb hts inw_CRd hown hK hP 0 rfl rfl 5 (by decide) (hts (.fieldLink R_CRd 39 "LikelyBits$CodedReader" "room" "I") mw_159) (fun _ h9 => h9) rfl d_CRd_enlarge_50 ?_
          refine lv_iconst (v := 1) hx hb d_CRd_enlarge_53 (by decide) ?_
          refine lv_isub hx hb d_CRd_enlarge_54 ?_
          refine lv_topi (fun x18 ex18 => ?_)
          refine va_put (D := D) (ci := 5) (v := .int x18) (ty := .int) (C := R_CRd) (T := T_CRd) (N := 6) hx hb hts inw_CRd ty_CRd tyok_CRd nm_CRd hown hK hP hD hS 0 rfl rfl 5 (by decide) (hts (.fieldLink R_CRd 39 "LikelyBits$CodedReader" "room" "I") mw_159) (fun _ h9 => h9) rfl (by decide +kernel) rfl rfl (Nat.le_of_ble_eq_true rfl) d_CRd_enlarge_55 (fun H locs hP hD hS => ?_)
          have hP : va_P D vwCl [(h0, .inr (5, [.ref qs, .ref qc, .int la_9, .int x17, .int x16, .int x18])), (qs, .inr (3, [.ref qr, .int pl, .int ln, .int cm_12])), (qr, .inr (0, [.ref qa, .int u])), (qa, .inl (k.1, n, .inl f))] H := hP
          have hD : va_D A [(h0, .inr (5, [.ref qs, .ref qc, .int la_9, .int x17, .int x16, .int x18])), (qs, .inr (3, [.ref qr, .int pl, .int ln, .int cm_12])), (qr, .inr (0, [.ref qa, .int u])), (qa, .inl (k.1, n, .inl f))] := hD
          obtain ⟨x19, ex19⟩ : ∃ y : Int32, y = i1 + 1 := ⟨_, rfl⟩
          refine lv_iinc (v := x19) (lv' := [(1, .int x19), (0, .ref h0)]) hx hb d_CRd_enlarge_58 hl (k := 0) rfl (by rw [ex19]; rfl) (by decide) rfl (fun ls hl => ?_)
          refine lv_goto (tgt := 2) hx hb d_CRd_enlarge_61 (by decide) ?_
          exact ih x19 la_9 x17 x16 x18 cm_12 hR (by subst ex19; subst ex18; subst ex17; subst ex16; obtain ⟨rfl, rfl, rfl, rfl⟩ := hw14; rw [hF, ren, if_neg c3, if_pos c4]) (by rw [ex19, hi, show 15 - t = (15 - (t + 1)) + 1 by omega]; exact nI_1 _) (by omega) H _ _ _ (by exact ⟨by omega, by omega⟩) (ka_P hP (is := [0, 1, 2, 3]) rfl) (hD.sub [0, 1, 2, 3] (by decide) rfl) hS ls (lv_sub hl [0, 1] rfl)
set_option maxHeartbeats 1000000 in
set_option maxRecDepth 100000 in
theorem c_CRd_enlarge (l : Launch) (hl9 : l.stackTraces = false) (D : va_G) (k : gK) (h0 qs qr qa : Nat) (zsz : Nat) (qc : Nat) (la : Int32) (va : Int32) (sz : Int32) (rm : Int32) (pl : Int32) (ln : Int32) (cm : Int32) (n : Nat) (f : Nat → Int32) (u : Int32) (L : List Int32) (hR : row_ok n f u L) : Met l y_CRd_enlarge (.code y_CRd_enlarge b_CRd_enlarge 2 none :: AW) ({ frames := 4, cells := 0, slots := 0, locals := 82 }) (va_Pc [.ref h0] (GG D k [(h0, .inr (5, [.ref qs, .ref qc, .int la, .int va, .int sz, .int rm])), (qs, .inr (3, [.ref qr, .int pl, .int ln, .int cm])), (qr, .inr (0, [.ref qa, .int u])), (qa, .inl (k.1, n, .inl f))] zsz)) (qc_CRd_enlarge D k h0 qs qr qa qc la va sz rm pl ln cm n f u L (va_A [(h0, .inr (5, [.ref qs, .ref qc, .int la, .int va, .int sz, .int rm])), (qs, .inr (3, [.ref qr, .int pl, .int ln, .int cm])), (qr, .inr (0, [.ref qa, .int u])), (qa, .inl (k.1, n, .inl f))] zsz)) 0 0 (va_A [(h0, .inr (5, [.ref qs, .ref qc, .int la, .int va, .int sz, .int rm])), (qs, .inr (3, [.ref qr, .int pl, .int ln, .int cm])), (qr, .inr (0, [.ref qa, .int u])), (qa, .inl (k.1, n, .inl f))] zsz) := by
  refine kMet (ws := [(h0, .inr (5, [.ref qs, .ref qc, .int la, .int va, .int sz, .int rm])), (qs, .inr (3, [.ref qr, .int pl, .int ln, .int cm])), (qr, .inr (0, [.ref qa, .int u])), (qa, .inl (k.1, n, .inl f))]) (Qc := qc_CRd_enlarge D k h0 qs qr qa qc la va sz rm pl ln cm n f u L) (by decide) (Nat.le_of_ble_eq_true rfl) (fun p e s m below meth c ls A H Cc hP hD hA hS hl => ?_)
  have Cc9 := Cc
  obtain ⟨hx, hb, hml, hr, hlk, hown, hts, hK, hE, hin⟩ := Cc
  have hl : lv_has ls 2 [(0, .ref h0)] := hl
  refine lv_iconst (v := 0) hx hb d_CRd_enlarge_0 (by decide) ?_
  refine lv_istore_n (lv' := [(1, .int 0), (0, .ref h0)]) hx hb d_CRd_enlarge_1 rfl hl (by decide) rfl (fun ls hl => ?_)
  exact lp_CRd_enlarge_2 l hl9 D k h0 qs qr qa qc la va sz rm pl ln cm n f u L Cc9 hA 15 0 la va sz rm cm hR rfl rfl (by decide) H _ _ _ ⟨rfl, rfl⟩ (ka_P hP (is := [0, 1, 2, 3]) rfl) (hD.sub [0, 1, 2, 3] (by decide) rfl) hS ls (lv_sub hl [0, 1] rfl)

def wo_CRd_nextBit (k : gK) (h0 qs qr qa qc qf qg : Nat) (la : Int32) (va : Int32) (sz : Int32) (rm : Int32) (pl : Int32) (ln : Int32) (cm : Int32) (sf : Nat → Int32) (lf : Nat → Int32) (n : Nat) (f : Nat → Int32) (u : Int32) (L : List Int32) (x : Int32) (zz : Unit) (uu : Int32 × Int32 × Int32 × Int32 × Int32 × (Nat → Int32) × (Nat → Int32)) : va_W := match zz, uu with
  | _, (la2, va2, sz2, rm2, cm2, sf2, lf2) => [(h0, .inr (5, [.ref qs, .ref qc, .int la2, .int va2, .int sz2, .int rm2])), (qs, .inr (3, [.ref qr, .int pl, .int ln, .int cm2])), (qr, .inr (0, [.ref qa, .int u])), (qa, .inl (k.1, n, .inl f)), (qc, .inr (1, [.ref qf, .ref qg])), (qf, .inl (k.1, 19, .inl sf2)), (qg, .inl (k.1, 19, .inl lf2))]
def ex_CRd_nextBit (k : gK) (h0 qs qr qa qc qf qg : Nat) (la : Int32) (va : Int32) (sz : Int32) (rm : Int32) (pl : Int32) (ln : Int32) (cm : Int32) (sf : Nat → Int32) (lf : Nat → Int32) (n : Nat) (f : Nat → Int32) (u : Int32) (L : List Int32) (x : Int32) (zz : Unit) (uu : Int32 × Int32 × Int32 × Int32 × Int32 × (Nat → Int32) × (Nat → Int32)) : Prop := match zz, uu with
  | _, (la2, va2, sz2, rm2, cm2, sf2, lf2) => True
def po_CRd_nextBit (k : gK) (h0 qs qr qa qc qf qg : Nat) (la : Int32) (va : Int32) (sz : Int32) (rm : Int32) (pl : Int32) (ln : Int32) (cm : Int32) (sf : Nat → Int32) (lf : Nat → Int32) (n : Nat) (f : Nat → Int32) (u : Int32) (L : List Int32) (x : Int32) (r : Int32) (uu : Int32 × Int32 × Int32 × Int32 × Int32 × (Nat → Int32) × (Nat → Int32)) : Prop := match uu with
  | (la2, va2, sz2, rm2, cm2, sf2, lf2) => r = (rnb L pl ln la va sz rm cm sf lf x).1 ∧ la2 = (rnb L pl ln la va sz rm cm sf lf x).2.1 ∧ va2 = (rnb L pl ln la va sz rm cm sf lf x).2.2.1 ∧ sz2 = (rnb L pl ln la va sz rm cm sf lf x).2.2.2.1 ∧ rm2 = (rnb L pl ln la va sz rm cm sf lf x).2.2.2.2.1 ∧ cm2 = (rnb L pl ln la va sz rm cm sf lf x).2.2.2.2.2.1 ∧ sf2 = (rnb L pl ln la va sz rm cm sf lf x).2.2.2.2.2.2.1 ∧ lf2 = (rnb L pl ln la va sz rm cm sf lf x).2.2.2.2.2.2.2
def qc_CRd_nextBit (D : va_G) (k : gK) (h0 qs qr qa qc qf qg : Nat) (la : Int32) (va : Int32) (sz : Int32) (rm : Int32) (pl : Int32) (ln : Int32) (cm : Int32) (sf : Nat → Int32) (lf : Nat → Int32) (n : Nat) (f : Nat → Int32) (u : Int32) (L : List Int32) (x : Int32) (A : Nat → Prop) : Array Value → State → Outcome → State → Prop := va_Qi (po_CRd_nextBit k h0 qs qr qa qc qf qg la va sz rm pl ln cm sf lf n f u L x) (fun uu t => ∃ zz, ex_CRd_nextBit k h0 qs qr qa qc qf qg la va sz rm pl ln cm sf lf n f u L x zz uu ∧ GP D A (wo_CRd_nextBit k h0 qs qr qa qc qf qg la va sz rm pl ln cm sf lf n f u L x zz uu) t) A
set_option maxHeartbeats 1000000 in
set_option maxRecDepth 100000 in
theorem c_CRd_nextBit (l : Launch) (hl9 : l.stackTraces = false) (D : va_G) (k : gK) (h0 qs qr qa qc qf qg : Nat) (zsz : Nat) (la : Int32) (va : Int32) (sz : Int32) (rm : Int32) (pl : Int32) (ln : Int32) (cm : Int32) (sf : Nat → Int32) (lf : Nat → Int32) (n : Nat) (f : Nat → Int32) (u : Int32) (L : List Int32) (x : Int32) (hR : row_ok n f u L) : Met l y_CRd_nextBit (.code y_CRd_nextBit b_CRd_nextBit 5 (some .int) :: AW) ({ frames := 5, cells := 0, slots := 0, locals := 103 }) (va_Pc [.ref h0, .int x] (GG D k [(h0, .inr (5, [.ref qs, .ref qc, .int la, .int va, .int sz, .int rm])), (qs, .inr (3, [.ref qr, .int pl, .int ln, .int cm])), (qr, .inr (0, [.ref qa, .int u])), (qa, .inl (k.1, n, .inl f)), (qc, .inr (1, [.ref qf, .ref qg])), (qf, .inl (k.1, 19, .inl sf)), (qg, .inl (k.1, 19, .inl lf))] zsz)) (qc_CRd_nextBit D k h0 qs qr qa qc qf qg la va sz rm pl ln cm sf lf n f u L x (va_A [(h0, .inr (5, [.ref qs, .ref qc, .int la, .int va, .int sz, .int rm])), (qs, .inr (3, [.ref qr, .int pl, .int ln, .int cm])), (qr, .inr (0, [.ref qa, .int u])), (qa, .inl (k.1, n, .inl f)), (qc, .inr (1, [.ref qf, .ref qg])), (qf, .inl (k.1, 19, .inl sf)), (qg, .inl (k.1, 19, .inl lf))] zsz)) 0 0 (va_A [(h0, .inr (5, [.ref qs, .ref qc, .int la, .int va, .int sz, .int rm])), (qs, .inr (3, [.ref qr, .int pl, .int ln, .int cm])), (qr, .inr (0, [.ref qa, .int u])), (qa, .inl (k.1, n, .inl f)), (qc, .inr (1, [.ref qf, .ref qg])), (qf, .inl (k.1, 19, .inl sf)), (qg, .inl (k.1, 19, .inl lf))] zsz) := by
  refine kMet (ws := [(h0, .inr (5, [.ref qs, .ref qc, .int la, .int va, .int sz, .int rm])), (qs, .inr (3, [.ref qr, .int pl, .int ln, .int cm])), (qr, .inr (0, [.ref qa, .int u])), (qa, .inl (k.1, n, .inl f)), (qc, .inr (1, [.ref qf, .ref qg])), (qf, .inl (k.1, 19, .inl sf)), (qg, .inl (k.1, 19, .inl lf))]) (Qc := qc_CRd_nextBit D k h0 qs qr qa qc qf qg la va sz rm pl ln cm sf lf n f u L x) (by decide) (Nat.le_of_ble_eq_true rfl) (fun p e s m below meth c ls A H Cc hP hD hA hS hl => ?_)
  obtain ⟨hx, hb, hml, hr, hlk, hown, hts, hK, hE, hin⟩ := Cc
  have hl : lv_has ls 5 [(0, .ref h0), (1, .int x)] := hl
  refine lv_aload_n hx hb d_CRd_nextBit_0 rfl (lv_at hl 0 rfl) ?_
  refine va_get (D := D) (ci := 5) (v := .ref qc) (C := R_CRd) (T := T_CRd) (N := 6) hx hb hts inw_CRd hown hK hP 0 rfl rfl 1 (by decide) (hts (.fieldLink R_CRd 15 "LikelyBits$CodedReader" "contexts" "LLikelyBits$Contexts;") mw_151) (fun _ h9 => h9) rfl d_CRd_nextBit_1 ?_
  refine lv_iload_n hx hb d_CRd_nextBit_4 rfl (lv_at hl 1 rfl) ?_
  refine kqi (va_runV (As := [.int x]) (rest := []) ⟨hx, hb, hml, hown, hts⟩ (c_Cxt_partOf l hl9 D k qc qf qg sf lf x ) (cwV 1 hts (gV mw_168 mw_106 mw_107 mw_23 mw_108) rfl rfl rfl (by decide +kernel) ⟨(Nat.le_of_ble_eq_true rfl), (Nat.le_of_ble_eq_true rfl)⟩) (kRecv (q := (R_Cxt, T_Cxt, 2)) (q0 := 4) (ci := 1) hK hP rfl rfl (kPreR (wc := [(qc, .inr (1, [.ref qf, .ref qg])), (qf, .inl (k.1, 19, .inl sf)), (qg, .inl (k.1, 19, .inl lf))]) hE hK hP hS [4, 5, 6] rfl)) rfl rfl hl.1 rfl (lv_room (Nat.le_of_ble_eq_true rfl)) d_CRd_nextBit_5 ⟨(Nat.le_of_ble_eq_true rfl), (Nat.le_of_ble_eq_true rfl)⟩) hP hS (fun r1 H locs hw hP hS => ?_)
  replace hw := hw.symm
  subst hw
  refine lv_topi (fun x2 ex2 => ?_)
  refine lv_istore_n (lv' := [(2, .int x2), (0, .ref h0), (1, .int x)]) hx hb d_CRd_nextBit_8 rfl hl (by decide) rfl (fun ls hl => ?_)
  refine lv_aload_n hx hb d_CRd_nextBit_9 rfl (lv_at hl 1 rfl) ?_
  refine va_get (D := D) (ci := 5) (v := .ref qc) (C := R_CRd) (T := T_CRd) (N := 6) hx hb hts inw_CRd hown hK hP 0 rfl rfl 1 (by decide) (hts (.fieldLink R_CRd 15 "LikelyBits$CodedReader" "contexts" "LLikelyBits$Contexts;") mw_151) (fun _ h9 => h9) rfl d_CRd_nextBit_10 ?_
  refine lv_iload_n hx hb d_CRd_nextBit_13 rfl (lv_at hl 2 rfl) ?_
  refine kqi (va_runV (As := [.int x]) (rest := []) ⟨hx, hb, hml, hown, hts⟩ (c_Cxt_likelyBitOf l hl9 D k qc qf qg sf lf x ) (cwV 1 hts (gV mw_169 mw_31 mw_32 mw_23 mw_33) rfl rfl rfl (by decide +kernel) ⟨(Nat.le_of_ble_eq_true rfl), (Nat.le_of_ble_eq_true rfl)⟩) (kRecv (q := (R_Cxt, T_Cxt, 2)) (q0 := 4) (ci := 1) hK hP rfl rfl (kPreR (wc := [(qc, .inr (1, [.ref qf, .ref qg])), (qf, .inl (k.1, 19, .inl sf)), (qg, .inl (k.1, 19, .inl lf))]) hE hK hP hS [4, 5, 6] rfl)) rfl rfl hl.1 rfl (lv_room (Nat.le_of_ble_eq_true rfl)) d_CRd_nextBit_14 ⟨(Nat.le_of_ble_eq_true rfl), (Nat.le_of_ble_eq_true rfl)⟩) hP hS (fun r3 H locs hw hP hS => ?_)
  replace hw := hw.symm
  subst hw
  refine lv_topi (fun x4 ex4 => ?_)
  refine lv_istore_n (lv' := [(3, .int x4), (2, .int x2), (0, .ref h0), (1, .int x)]) hx hb d_CRd_nextBit_17 rfl hl (by decide) rfl (fun ls hl => ?_)
  refine lv_aload_n hx hb d_CRd_nextBit_18 rfl (lv_at hl 2 rfl) ?_
  refine lv_dup hx hb d_CRd_nextBit_19 rfl ?_
  refine va_get (D := D) (ci := 5) (v := .int sz) (C := R_CRd) (T := T_CRd) (N := 6) hx hb hts inw_CRd hown hK hP 0 rfl rfl 4 (by decide) (hts (.fieldLink R_CRd 33 "LikelyBits$CodedReader" "size" "I") mw_162) (fun _ h9 => h9) rfl d_CRd_nextBit_20 ?_
  refine lv_iload_n hx hb d_CRd_nextBit_23 rfl (lv_at hl 1 rfl) ?_
  refine lv_isub hx hb d_CRd_nextBit_24 ?_
  refine lv_topi (fun x5 ex5 => ?_)
  refine va_put (D := D) (ci := 5) (v := .int x5) (ty := .int) (C := R_CRd) (T := T_CRd) (N := 6) hx hb hts inw_CRd ty_CRd tyok_CRd nm_CRd hown hK hP hD hS 0 rfl rfl 4 (by decide) (hts (.fieldLink R_CRd 33 "LikelyBits$CodedReader" "size" "I") mw_162) (fun _ h9 => h9) rfl (by decide +kernel) rfl rfl (Nat.le_of_ble_eq_true rfl) d_CRd_nextBit_25 (fun H locs hP hD hS => ?_)
  have hP : va_P D vwCl [(h0, .inr (5, [.ref qs, .ref qc, .int la, .int va, .int x5, .int rm])), (qs, .inr (3, [.ref qr, .int pl, .int ln, .int cm])), (qr, .inr (0, [.ref qa, .int u])), (qa, .inl (k.1, n, .inl f)), (qc, .inr (1, [.ref qf, .ref qg])), (qf, .inl (k.1, 19, .inl sf)), (qg, .inl (k.1, 19, .inl lf))] H := hP
  have hD : va_D A [(h0, .inr (5, [.ref qs, .ref qc, .int la, .int va, .int x5, .int rm])), (qs, .inr (3, [.ref qr, .int pl, .int ln, .int cm])), (qr, .inr (0, [.ref qa, .int u])), (qa, .inl (k.1, n, .inl f)), (qc, .inr (1, [.ref qf, .ref qg])), (qf, .inl (k.1, 19, .inl sf)), (qg, .inl (k.1, 19, .inl lf))] := hD
  refine lv_aload_n hx hb d_CRd_nextBit_28 rfl (lv_at hl 2 rfl) ?_
  refine va_get (D := D) (ci := 5) (v := .int va) (C := R_CRd) (T := T_CRd) (N := 6) hx hb hts inw_CRd hown hK hP 0 rfl rfl 3 (by decide) (hts (.fieldLink R_CRd 29 "LikelyBits$CodedReader" "value" "I") mw_158) (fun _ h9 => h9) rfl d_CRd_nextBit_29 ?_
  refine lv_bipush (v := 16) hx hb d_CRd_nextBit_32 (by decide) ?_
  refine lv_iushr (v := jushr va 16) hx hb d_CRd_nextBit_34 rfl ?_
  refine lv_iload_n hx hb d_CRd_nextBit_35 rfl (lv_at hl 1 rfl) ?_
  refine lv_icmp_ge (tgt := 62) hx hb d_CRd_nextBit_36 (by decide) (fun c6 => ?_) (fun c6 => ?_)
  · refine lv_aload_n hx hb d_CRd_nextBit_62 rfl (lv_at hl 2 rfl) ?_
    refine lv_dup hx hb d_CRd_nextBit_63 rfl ?_
    refine va_get (D := D) (ci := 5) (v := .int va) (C := R_CRd) (T := T_CRd) (N := 6) hx hb hts inw_CRd hown hK hP 0 rfl rfl 3 (by decide) (hts (.fieldLink R_CRd 29 "LikelyBits$CodedReader" "value" "I") mw_158) (fun _ h9 => h9) rfl d_CRd_nextBit_64 ?_
    refine lv_iload_n hx hb d_CRd_nextBit_67 rfl (lv_at hl 1 rfl) ?_
    refine lv_bipush (v := 16) hx hb d_CRd_nextBit_68 (by decide) ?_
    refine lv_ishl hx hb d_CRd_nextBit_70 ?_
    refine lv_isub hx hb d_CRd_nextBit_71 ?_
    refine lv_topi (fun x7 ex7 => ?_)
    refine va_put (D := D) (ci := 5) (v := .int x7) (ty := .int) (C := R_CRd) (T := T_CRd) (N := 6) hx hb hts inw_CRd ty_CRd tyok_CRd nm_CRd hown hK hP hD hS 0 rfl rfl 3 (by decide) (hts (.fieldLink R_CRd 29 "LikelyBits$CodedReader" "value" "I") mw_158) (fun _ h9 => h9) rfl (by decide +kernel) rfl rfl (Nat.le_of_ble_eq_true rfl) d_CRd_nextBit_72 (fun H locs hP hD hS => ?_)
    have hP : va_P D vwCl [(h0, .inr (5, [.ref qs, .ref qc, .int la, .int x7, .int x5, .int rm])), (qs, .inr (3, [.ref qr, .int pl, .int ln, .int cm])), (qr, .inr (0, [.ref qa, .int u])), (qa, .inl (k.1, n, .inl f)), (qc, .inr (1, [.ref qf, .ref qg])), (qf, .inl (k.1, 19, .inl sf)), (qg, .inl (k.1, 19, .inl lf))] H := hP
    have hD : va_D A [(h0, .inr (5, [.ref qs, .ref qc, .int la, .int x7, .int x5, .int rm])), (qs, .inr (3, [.ref qr, .int pl, .int ln, .int cm])), (qr, .inr (0, [.ref qa, .int u])), (qa, .inl (k.1, n, .inl f)), (qc, .inr (1, [.ref qf, .ref qg])), (qf, .inl (k.1, 19, .inl sf)), (qg, .inl (k.1, 19, .inl lf))] := hD
    refine lv_aload_n hx hb d_CRd_nextBit_75 rfl (lv_at hl 2 rfl) ?_
    refine va_get (D := D) (ci := 5) (v := .int x5) (C := R_CRd) (T := T_CRd) (N := 6) hx hb hts inw_CRd hown hK hP 0 rfl rfl 4 (by decide) (hts (.fieldLink R_CRd 33 "LikelyBits$CodedReader" "size" "I") mw_162) (fun _ h9 => h9) rfl d_CRd_nextBit_76 ?_
    refine lv_ldc (v := 32768) hx hb hown (hts (.constant R_CRd 32 32768) mw_161) d_CRd_nextBit_79 ?_
    refine lv_icmp_lt (tgt := 86) hx hb d_CRd_nextBit_81 (by decide) (fun c8 => ?_) (fun c8 => ?_)
    · refine lv_aload_n hx hb d_CRd_nextBit_86 rfl (lv_at hl 2 rfl) ?_
      refine va_get (D := D) (ci := 5) (v := .int x5) (C := R_CRd) (T := T_CRd) (N := 6) hx hb hts inw_CRd hown hK hP 0 rfl rfl 4 (by decide) (hts (.fieldLink R_CRd 33 "LikelyBits$CodedReader" "size" "I") mw_162) (fun _ h9 => h9) rfl d_CRd_nextBit_87 ?_
      refine lv_iload_n hx hb d_CRd_nextBit_90 rfl (lv_at hl 1 rfl) ?_
      refine lv_icmp_lt (tgt := 98) hx hb d_CRd_nextBit_91 (by decide) (fun c9 => ?_) (fun c9 => ?_)
      · refine lv_iconst (v := 0) hx hb d_CRd_nextBit_98 (by decide) ?_
        refine lv_istore (lv' := [(4, .int 0), (3, .int x4), (2, .int x2), (0, .ref h0), (1, .int x)]) hx hb d_CRd_nextBit_99 hl (by decide) rfl (fun ls hl => ?_)
        refine lv_iload hx hb d_CRd_nextBit_101 (lv_at hl 0 rfl) ?_
        refine lv_if_eq (tgt := 117) hx hb d_CRd_nextBit_103 (by decide) (fun c10 => ?_) (fun c10 => ?_)
        · refine lv_aload_n hx hb d_CRd_nextBit_117 rfl (lv_at hl 3 rfl) ?_
          refine va_get (D := D) (ci := 5) (v := .ref qc) (C := R_CRd) (T := T_CRd) (N := 6) hx hb hts inw_CRd hown hK hP 0 rfl rfl 1 (by decide) (hts (.fieldLink R_CRd 15 "LikelyBits$CodedReader" "contexts" "LLikelyBits$Contexts;") mw_151) (fun _ h9 => h9) rfl d_CRd_nextBit_118 ?_
          refine lv_iload_n hx hb d_CRd_nextBit_121 rfl (lv_at hl 4 rfl) ?_
          refine kcv (wc := [(qc, .inr (1, [.ref qf, .ref qg])), (qf, .inl (k.1, 19, .inl sf)), (qg, .inl (k.1, 19, .inl lf))]) (wr := [(h0, .inr (5, [.ref qs, .ref qc, .int la, .int x7, .int x5, .int rm])), (qs, .inr (3, [.ref qr, .int pl, .int ln, .int cm])), (qr, .inr (0, [.ref qa, .int u])), (qa, .inl (k.1, n, .inl f))]) (va_runV (As := [.int x]) (rest := []) ⟨hx, hb, hml, hown, hts⟩ (c_Cxt_afterOther l hl9 D k qc qf qg H.size sf lf x ) (cwV 1 hts (gV mw_170 mw_102 mw_103 mw_23 mw_104) rfl rfl rfl (by decide +kernel) ⟨(Nat.le_of_ble_eq_true rfl), (Nat.le_of_ble_eq_true rfl)⟩) (kRecv (q := (R_Cxt, T_Cxt, 2)) (q0 := 4) (ci := 1) hK hP rfl rfl (kPre (wc := [(qc, .inr (1, [.ref qf, .ref qg])), (qf, .inl (k.1, 19, .inl sf)), (qg, .inl (k.1, 19, .inl lf))]) hE hK hP hD hS hA [4, 5, 6] rfl (by decide))) rfl rfl hl.1 rfl (lv_room (Nat.le_of_ble_eq_true rfl)) d_CRd_nextBit_122 ⟨(Nat.le_of_ble_eq_true rfl), (Nat.le_of_ble_eq_true rfl)⟩) hP hD hS hA [4, 5, 6] [0, 1, 2, 3] rfl rfl (by decide) (by decide) (fun zz uu H locs hw14 hz15 hP hD hS => ?_)
          obtain ⟨sf_11, lf_12⟩ := uu
          have hw14 : sf_11 = (cOt sf lf x).1 ∧ lf_12 = (cOt sf lf x).2 := hw14
          have hP : va_P D vwCl [(h0, .inr (5, [.ref qs, .ref qc, .int la, .int x7, .int x5, .int rm])), (qs, .inr (3, [.ref qr, .int pl, .int ln, .int cm])), (qr, .inr (0, [.ref qa, .int u])), (qa, .inl (k.1, n, .inl f)), (qc, .inr (1, [.ref qf, .ref qg])), (qf, .inl (k.1, 19, .inl sf_11)), (qg, .inl (k.1, 19, .inl lf_12))] H := hP
          have hD : va_D A [(h0, .inr (5, [.ref qs, .ref qc, .int la, .int x7, .int x5, .int rm])), (qs, .inr (3, [.ref qr, .int pl, .int ln, .int cm])), (qr, .inr (0, [.ref qa, .int u])), (qa, .inl (k.1, n, .inl f)), (qc, .inr (1, [.ref qf, .ref qg])), (qf, .inl (k.1, 19, .inl sf_11)), (qg, .inl (k.1, 19, .inl lf_12))] := hD
          refine lv_aload_n hx hb d_CRd_nextBit_125 rfl (lv_at hl 3 rfl) ?_
          refine kcv (wc := [(h0, .inr (5, [.ref qs, .ref qc, .int la, .int x7, .int x5, .int rm])), (qs, .inr (3, [.ref qr, .int pl, .int ln, .int cm])), (qr, .inr (0, [.ref qa, .int u])), (qa, .inl (k.1, n, .inl f))]) (wr := [(qc, .inr (1, [.ref qf, .ref qg])), (qf, .inl (k.1, 19, .inl sf_11)), (qg, .inl (k.1, 19, .inl lf_12))]) (va_runV (As := []) (rest := []) ⟨hx, hb, hml, hown, hts⟩ (c_CRd_enlarge l hl9 D k h0 qs qr qa H.size qc la x7 x5 rm pl ln cm n f u L (by assumption)) (cwV 0 hts (gV mw_171 mw_172 mw_173 mw_166 mw_174) rfl rfl rfl (by decide +kernel) ⟨(Nat.le_of_ble_eq_true rfl), (Nat.le_of_ble_eq_true rfl)⟩) (kRecv (q := (R_CRd, T_CRd, 6)) (q0 := 0) (ci := 5) hK hP rfl rfl (kPre (wc := [(h0, .inr (5, [.ref qs, .ref qc, .int la, .int x7, .int x5, .int rm])), (qs, .inr (3, [.ref qr, .int pl, .int ln, .int cm])), (qr, .inr (0, [.ref qa, .int u])), (qa, .inl (k.1, n, .inl f))]) hE hK hP hD hS hA [0, 1, 2, 3] rfl (by decide))) rfl rfl hl.1 rfl (lv_room (Nat.le_of_ble_eq_true rfl)) d_CRd_nextBit_126 ⟨(Nat.le_of_ble_eq_true rfl), (Nat.le_of_ble_eq_true rfl)⟩) hP hD hS hA [0, 1, 2, 3] [4, 5, 6] rfl rfl (by decide) (by decide) (fun zz uu H locs hw22 hz23 hP hD hS => ?_)
          obtain ⟨la_16, va_17, sz_18, rm_19, cm_20⟩ := uu
          have hw22 : la_16 = (ren 15 L pl ln la x7 x5 rm cm).1 ∧ va_17 = (ren 15 L pl ln la x7 x5 rm cm).2.1 ∧ sz_18 = (ren 15 L pl ln la x7 x5 rm cm).2.2.1 ∧ rm_19 = (ren 15 L pl ln la x7 x5 rm cm).2.2.2.1 ∧ cm_20 = (ren 15 L pl ln la x7 x5 rm cm).2.2.2.2 := hw22
          have hP : va_P D vwCl [(qc, .inr (1, [.ref qf, .ref qg])), (qf, .inl (k.1, 19, .inl sf_11)), (qg, .inl (k.1, 19, .inl lf_12)), (h0, .inr (5, [.ref qs, .ref qc, .int la_16, .int va_17, .int sz_18, .int rm_19])), (qs, .inr (3, [.ref qr, .int pl, .int ln, .int cm_20])), (qr, .inr (0, [.ref qa, .int u])), (qa, .inl (k.1, n, .inl f))] H := hP
          have hD : va_D A [(qc, .inr (1, [.ref qf, .ref qg])), (qf, .inl (k.1, 19, .inl sf_11)), (qg, .inl (k.1, 19, .inl lf_12)), (h0, .inr (5, [.ref qs, .ref qc, .int la_16, .int va_17, .int sz_18, .int rm_19])), (qs, .inr (3, [.ref qr, .int pl, .int ln, .int cm_20])), (qr, .inr (0, [.ref qa, .int u])), (qa, .inl (k.1, n, .inl f))] := hD
          refine lv_iload hx hb d_CRd_nextBit_129 (lv_at hl 0 rfl) ?_
          refine lv_if_eq (tgt := 138) hx hb d_CRd_nextBit_131 (by decide) (fun c24 => ?_) (fun c24 => ?_)
          · refine lv_iconst (v := 1) hx hb d_CRd_nextBit_138 (by decide) ?_
            refine lv_iload_n hx hb d_CRd_nextBit_139 rfl (lv_at hl 1 rfl) ?_
            refine lv_isub hx hb d_CRd_nextBit_140 ?_
            exact kri (wo := wo_CRd_nextBit k h0 qs qr qa qc qf qg la va sz rm pl ln cm sf lf n f u L x) hx hb hr hlk hP hD hS (la_16, va_17, sz_18, rm_19, cm_20, sf_11, lf_12) () (by obtain ⟨rfl, rfl, rfl, rfl, rfl⟩ := hw22; obtain ⟨rfl, rfl⟩ := hw14; subst ex7; subst ex5; subst ex4; subst ex2; simp [po_CRd_nextBit, rnb, rfL, rfO, c6, c8, c9, c10, c24]) trivial [3, 4, 5, 6, 0, 1, 2] rfl (by decide) (Nat.le_of_ble_eq_true rfl) (Nat.le_of_ble_eq_true rfl) d_CRd_nextBit_141
          · exact absurd rfl c24
        · exact absurd rfl c10
      · refine lv_iconst (v := 1) hx hb d_CRd_nextBit_94 (by decide) ?_
        refine lv_goto (tgt := 99) hx hb d_CRd_nextBit_95 (by decide) ?_
        refine lv_istore (lv' := [(4, .int 1), (3, .int x4), (2, .int x2), (0, .ref h0), (1, .int x)]) hx hb d_CRd_nextBit_99 hl (by decide) rfl (fun ls hl => ?_)
        refine lv_iload hx hb d_CRd_nextBit_101 (lv_at hl 0 rfl) ?_
        refine lv_if_eq (tgt := 117) hx hb d_CRd_nextBit_103 (by decide) (fun c25 => ?_) (fun c25 => ?_)
        · exact absurd c25 (by decide)
        · refine lv_aload_n hx hb d_CRd_nextBit_106 rfl (lv_at hl 3 rfl) ?_
          refine va_get (D := D) (ci := 5) (v := .ref qc) (C := R_CRd) (T := T_CRd) (N := 6) hx hb hts inw_CRd hown hK hP 0 rfl rfl 1 (by decide) (hts (.fieldLink R_CRd 15 "LikelyBits$CodedReader" "contexts" "LLikelyBits$Contexts;") mw_151) (fun _ h9 => h9) rfl d_CRd_nextBit_107 ?_
          refine lv_iload_n hx hb d_CRd_nextBit_110 rfl (lv_at hl 4 rfl) ?_
          refine kcv (wc := [(qc, .inr (1, [.ref qf, .ref qg])), (qf, .inl (k.1, 19, .inl sf)), (qg, .inl (k.1, 19, .inl lf))]) (wr := [(h0, .inr (5, [.ref qs, .ref qc, .int la, .int x7, .int x5, .int rm])), (qs, .inr (3, [.ref qr, .int pl, .int ln, .int cm])), (qr, .inr (0, [.ref qa, .int u])), (qa, .inl (k.1, n, .inl f))]) (va_runV (As := [.int x]) (rest := []) ⟨hx, hb, hml, hown, hts⟩ (c_Cxt_afterLikely l hl9 D k qc qf qg H.size sf lf x ) (cwV 1 hts (gV mw_175 mw_98 mw_99 mw_23 mw_100) rfl rfl rfl (by decide +kernel) ⟨(Nat.le_of_ble_eq_true rfl), (Nat.le_of_ble_eq_true rfl)⟩) (kRecv (q := (R_Cxt, T_Cxt, 2)) (q0 := 4) (ci := 1) hK hP rfl rfl (kPre (wc := [(qc, .inr (1, [.ref qf, .ref qg])), (qf, .inl (k.1, 19, .inl sf)), (qg, .inl (k.1, 19, .inl lf))]) hE hK hP hD hS hA [4, 5, 6] rfl (by decide))) rfl rfl hl.1 rfl (lv_room (Nat.le_of_ble_eq_true rfl)) d_CRd_nextBit_111 ⟨(Nat.le_of_ble_eq_true rfl), (Nat.le_of_ble_eq_true rfl)⟩) hP hD hS hA [4, 5, 6] [0, 1, 2, 3] rfl rfl (by decide) (by decide) (fun zz uu H locs hw29 hz30 hP hD hS => ?_)
          obtain ⟨sf_26, lf_27⟩ := uu
          have hw29 : sf_26 = (cLk sf lf x).1 ∧ lf_27 = (cLk sf lf x).2 := hw29
          have hP : va_P D vwCl [(h0, .inr (5, [.ref qs, .ref qc, .int la, .int x7, .int x5, .int rm])), (qs, .inr (3, [.ref qr, .int pl, .int ln, .int cm])), (qr, .inr (0, [.ref qa, .int u])), (qa, .inl (k.1, n, .inl f)), (qc, .inr (1, [.ref qf, .ref qg])), (qf, .inl (k.1, 19, .inl sf_26)), (qg, .inl (k.1, 19, .inl lf_27))] H := hP
          have hD : va_D A [(h0, .inr (5, [.ref qs, .ref qc, .int la, .int x7, .int x5, .int rm])), (qs, .inr (3, [.ref qr, .int pl, .int ln, .int cm])), (qr, .inr (0, [.ref qa, .int u])), (qa, .inl (k.1, n, .inl f)), (qc, .inr (1, [.ref qf, .ref qg])), (qf, .inl (k.1, 19, .inl sf_26)), (qg, .inl (k.1, 19, .inl lf_27))] := hD
          refine lv_goto (tgt := 125) hx hb d_CRd_nextBit_114 (by decide) ?_
          refine lv_aload_n hx hb d_CRd_nextBit_125 rfl (lv_at hl 3 rfl) ?_
          refine kcv (wc := [(h0, .inr (5, [.ref qs, .ref qc, .int la, .int x7, .int x5, .int rm])), (qs, .inr (3, [.ref qr, .int pl, .int ln, .int cm])), (qr, .inr (0, [.ref qa, .int u])), (qa, .inl (k.1, n, .inl f))]) (wr := [(qc, .inr (1, [.ref qf, .ref qg])), (qf, .inl (k.1, 19, .inl sf_26)), (qg, .inl (k.1, 19, .inl lf_27))]) (va_runV (As := []) (rest := []) ⟨hx, hb, hml, hown, hts⟩ (c_CRd_enlarge l hl9 D k h0 qs qr qa H.size qc la x7 x5 rm pl ln cm n f u L (by assumption)) (cwV 0 hts (gV mw_171 mw_172 mw_173 mw_166 mw_174) rfl rfl rfl (by decide +kernel) ⟨(Nat.le_of_ble_eq_true rfl), (Nat.le_of_ble_eq_true rfl)⟩) (kRecv (q := (R_CRd, T_CRd, 6)) (q0 := 0) (ci := 5) hK hP rfl rfl (kPre (wc := [(h0, .inr (5, [.ref qs, .ref qc, .int la, .int x7, .int x5, .int rm])), (qs, .inr (3, [.ref qr, .int pl, .int ln, .int cm])), (qr, .inr (0, [.ref qa, .int u])), (qa, .inl (k.1, n, .inl f))]) hE hK hP hD hS hA [0, 1, 2, 3] rfl (by decide))) rfl rfl hl.1 rfl (lv_room (Nat.le_of_ble_eq_true rfl)) d_CRd_nextBit_126 ⟨(Nat.le_of_ble_eq_true rfl), (Nat.le_of_ble_eq_true rfl)⟩) hP hD hS hA [0, 1, 2, 3] [4, 5, 6] rfl rfl (by decide) (by decide) (fun zz uu H locs hw37 hz38 hP hD hS => ?_)
          obtain ⟨la_31, va_32, sz_33, rm_34, cm_35⟩ := uu
          have hw37 : la_31 = (ren 15 L pl ln la x7 x5 rm cm).1 ∧ va_32 = (ren 15 L pl ln la x7 x5 rm cm).2.1 ∧ sz_33 = (ren 15 L pl ln la x7 x5 rm cm).2.2.1 ∧ rm_34 = (ren 15 L pl ln la x7 x5 rm cm).2.2.2.1 ∧ cm_35 = (ren 15 L pl ln la x7 x5 rm cm).2.2.2.2 := hw37
          have hP : va_P D vwCl [(qc, .inr (1, [.ref qf, .ref qg])), (qf, .inl (k.1, 19, .inl sf_26)), (qg, .inl (k.1, 19, .inl lf_27)), (h0, .inr (5, [.ref qs, .ref qc, .int la_31, .int va_32, .int sz_33, .int rm_34])), (qs, .inr (3, [.ref qr, .int pl, .int ln, .int cm_35])), (qr, .inr (0, [.ref qa, .int u])), (qa, .inl (k.1, n, .inl f))] H := hP
          have hD : va_D A [(qc, .inr (1, [.ref qf, .ref qg])), (qf, .inl (k.1, 19, .inl sf_26)), (qg, .inl (k.1, 19, .inl lf_27)), (h0, .inr (5, [.ref qs, .ref qc, .int la_31, .int va_32, .int sz_33, .int rm_34])), (qs, .inr (3, [.ref qr, .int pl, .int ln, .int cm_35])), (qr, .inr (0, [.ref qa, .int u])), (qa, .inl (k.1, n, .inl f))] := hD
          refine lv_iload hx hb d_CRd_nextBit_129 (lv_at hl 0 rfl) ?_
          refine lv_if_eq (tgt := 138) hx hb d_CRd_nextBit_131 (by decide) (fun c39 => ?_) (fun c39 => ?_)
          · exact absurd c39 (by decide)
          · refine lv_iload_n hx hb d_CRd_nextBit_134 rfl (lv_at hl 1 rfl) ?_
            refine lv_goto (tgt := 141) hx hb d_CRd_nextBit_135 (by decide) ?_
            exact kri (wo := wo_CRd_nextBit k h0 qs qr qa qc qf qg la va sz rm pl ln cm sf lf n f u L x) hx hb hr hlk hP hD hS (la_31, va_32, sz_33, rm_34, cm_35, sf_26, lf_27) () (by obtain ⟨rfl, rfl, rfl, rfl, rfl⟩ := hw37; obtain ⟨rfl, rfl⟩ := hw29; subst ex7; subst ex5; subst ex4; subst ex2; simp [po_CRd_nextBit, rnb, rfL, rfO, c6, c8, c9, c25, c39]) trivial [3, 4, 5, 6, 0, 1, 2] rfl (by decide) (Nat.le_of_ble_eq_true rfl) (Nat.le_of_ble_eq_true rfl) d_CRd_nextBit_141
    · refine lv_iload_n hx hb d_CRd_nextBit_84 rfl (lv_at hl 0 rfl) ?_
      exact kri (wo := wo_CRd_nextBit k h0 qs qr qa qc qf qg la va sz rm pl ln cm sf lf n f u L x) hx hb hr hlk hP hD hS (la, x7, x5, rm, cm, sf, lf) () (by subst ex7; subst ex5; subst ex4; subst ex2; simp [po_CRd_nextBit, rnb, rfL, rfO, c6, c8]) trivial [0, 1, 2, 3, 4, 5, 6] rfl (by decide) (Nat.le_of_ble_eq_true rfl) (Nat.le_of_ble_eq_true rfl) d_CRd_nextBit_85
  · refine lv_aload_n hx hb d_CRd_nextBit_39 rfl (lv_at hl 2 rfl) ?_
    refine va_get (D := D) (ci := 5) (v := .int x5) (C := R_CRd) (T := T_CRd) (N := 6) hx hb hts inw_CRd hown hK hP 0 rfl rfl 4 (by decide) (hts (.fieldLink R_CRd 33 "LikelyBits$CodedReader" "size" "I") mw_162) (fun _ h9 => h9) rfl d_CRd_nextBit_40 ?_
    refine lv_iload_n hx hb d_CRd_nextBit_43 rfl (lv_at hl 1 rfl) ?_
    refine lv_icmp_ge (tgt := 51) hx hb d_CRd_nextBit_44 (by decide) (fun c40 => ?_) (fun c40 => ?_)
    · refine lv_iconst (v := 0) hx hb d_CRd_nextBit_51 (by decide) ?_
      refine lv_istore (lv' := [(4, .int 0), (3, .int x4), (2, .int x2), (0, .ref h0), (1, .int x)]) hx hb d_CRd_nextBit_52 hl (by decide) rfl (fun ls hl => ?_)
      refine lv_aload_n hx hb d_CRd_nextBit_54 rfl (lv_at hl 3 rfl) ?_
      refine lv_iload_n hx hb d_CRd_nextBit_55 rfl (lv_at hl 2 rfl) ?_
      refine va_put (D := D) (ci := 5) (v := .int x2) (ty := .int) (C := R_CRd) (T := T_CRd) (N := 6) hx hb hts inw_CRd ty_CRd tyok_CRd nm_CRd hown hK hP hD hS 0 rfl rfl 4 (by decide) (hts (.fieldLink R_CRd 33 "LikelyBits$CodedReader" "size" "I") mw_162) (fun _ h9 => h9) rfl (by decide +kernel) rfl rfl (Nat.le_of_ble_eq_true rfl) d_CRd_nextBit_56 (fun H locs hP hD hS => ?_)
      have hP : va_P D vwCl [(h0, .inr (5, [.ref qs, .ref qc, .int la, .int va, .int x2, .int rm])), (qs, .inr (3, [.ref qr, .int pl, .int ln, .int cm])), (qr, .inr (0, [.ref qa, .int u])), (qa, .inl (k.1, n, .inl f)), (qc, .inr (1, [.ref qf, .ref qg])), (qf, .inl (k.1, 19, .inl sf)), (qg, .inl (k.1, 19, .inl lf))] H := hP
      have hD : va_D A [(h0, .inr (5, [.ref qs, .ref qc, .int la, .int va, .int x2, .int rm])), (qs, .inr (3, [.ref qr, .int pl, .int ln, .int cm])), (qr, .inr (0, [.ref qa, .int u])), (qa, .inl (k.1, n, .inl f)), (qc, .inr (1, [.ref qf, .ref qg])), (qf, .inl (k.1, 19, .inl sf)), (qg, .inl (k.1, 19, .inl lf))] := hD
      refine lv_goto (tgt := 101) hx hb d_CRd_nextBit_59 (by decide) ?_
      refine lv_iload hx hb d_CRd_nextBit_101 (lv_at hl 0 rfl) ?_
      refine lv_if_eq (tgt := 117) hx hb d_CRd_nextBit_103 (by decide) (fun c41 => ?_) (fun c41 => ?_)
      · refine lv_aload_n hx hb d_CRd_nextBit_117 rfl (lv_at hl 3 rfl) ?_
        refine va_get (D := D) (ci := 5) (v := .ref qc) (C := R_CRd) (T := T_CRd) (N := 6) hx hb hts inw_CRd hown hK hP 0 rfl rfl 1 (by decide) (hts (.fieldLink R_CRd 15 "LikelyBits$CodedReader" "contexts" "LLikelyBits$Contexts;") mw_151) (fun _ h9 => h9) rfl d_CRd_nextBit_118 ?_
        refine lv_iload_n hx hb d_CRd_nextBit_121 rfl (lv_at hl 4 rfl) ?_
        refine kcv (wc := [(qc, .inr (1, [.ref qf, .ref qg])), (qf, .inl (k.1, 19, .inl sf)), (qg, .inl (k.1, 19, .inl lf))]) (wr := [(h0, .inr (5, [.ref qs, .ref qc, .int la, .int va, .int x2, .int rm])), (qs, .inr (3, [.ref qr, .int pl, .int ln, .int cm])), (qr, .inr (0, [.ref qa, .int u])), (qa, .inl (k.1, n, .inl f))]) (va_runV (As := [.int x]) (rest := []) ⟨hx, hb, hml, hown, hts⟩ (c_Cxt_afterOther l hl9 D k qc qf qg H.size sf lf x ) (cwV 1 hts (gV mw_170 mw_102 mw_103 mw_23 mw_104) rfl rfl rfl (by decide +kernel) ⟨(Nat.le_of_ble_eq_true rfl), (Nat.le_of_ble_eq_true rfl)⟩) (kRecv (q := (R_Cxt, T_Cxt, 2)) (q0 := 4) (ci := 1) hK hP rfl rfl (kPre (wc := [(qc, .inr (1, [.ref qf, .ref qg])), (qf, .inl (k.1, 19, .inl sf)), (qg, .inl (k.1, 19, .inl lf))]) hE hK hP hD hS hA [4, 5, 6] rfl (by decide))) rfl rfl hl.1 rfl (lv_room (Nat.le_of_ble_eq_true rfl)) d_CRd_nextBit_122 ⟨(Nat.le_of_ble_eq_true rfl), (Nat.le_of_ble_eq_true rfl)⟩) hP hD hS hA [4, 5, 6] [0, 1, 2, 3] rfl rfl (by decide) (by decide) (fun zz uu H locs hw45 hz46 hP hD hS => ?_)
        obtain ⟨sf_42, lf_43⟩ := uu
        have hw45 : sf_42 = (cOt sf lf x).1 ∧ lf_43 = (cOt sf lf x).2 := hw45
        have hP : va_P D vwCl [(h0, .inr (5, [.ref qs, .ref qc, .int la, .int va, .int x2, .int rm])), (qs, .inr (3, [.ref qr, .int pl, .int ln, .int cm])), (qr, .inr (0, [.ref qa, .int u])), (qa, .inl (k.1, n, .inl f)), (qc, .inr (1, [.ref qf, .ref qg])), (qf, .inl (k.1, 19, .inl sf_42)), (qg, .inl (k.1, 19, .inl lf_43))] H := hP
        have hD : va_D A [(h0, .inr (5, [.ref qs, .ref qc, .int la, .int va, .int x2, .int rm])), (qs, .inr (3, [.ref qr, .int pl, .int ln, .int cm])), (qr, .inr (0, [.ref qa, .int u])), (qa, .inl (k.1, n, .inl f)), (qc, .inr (1, [.ref qf, .ref qg])), (qf, .inl (k.1, 19, .inl sf_42)), (qg, .inl (k.1, 19, .inl lf_43))] := hD
        refine lv_aload_n hx hb d_CRd_nextBit_125 rfl (lv_at hl 3 rfl) ?_
        refine kcv (wc := [(h0, .inr (5, [.ref qs, .ref qc, .int la, .int va, .int x2, .int rm])), (qs, .inr (3, [.ref qr, .int pl, .int ln, .int cm])), (qr, .inr (0, [.ref qa, .int u])), (qa, .inl (k.1, n, .inl f))]) (wr := [(qc, .inr (1, [.ref qf, .ref qg])), (qf, .inl (k.1, 19, .inl sf_42)), (qg, .inl (k.1, 19, .inl lf_43))]) (va_runV (As := []) (rest := []) ⟨hx, hb, hml, hown, hts⟩ (c_CRd_enlarge l hl9 D k h0 qs qr qa H.size qc la va x2 rm pl ln cm n f u L (by assumption)) (cwV 0 hts (gV mw_171 mw_172 mw_173 mw_166 mw_174) rfl rfl rfl (by decide +kernel) ⟨(Nat.le_of_ble_eq_true rfl), (Nat.le_of_ble_eq_true rfl)⟩) (kRecv (q := (R_CRd, T_CRd, 6)) (q0 := 0) (ci := 5) hK hP rfl rfl (kPre (wc := [(h0, .inr (5, [.ref qs, .ref qc, .int la, .int va, .int x2, .int rm])), (qs, .inr (3, [.ref qr, .int pl, .int ln, .int cm])), (qr, .inr (0, [.ref qa, .int u])), (qa, .inl (k.1, n, .inl f))]) hE hK hP hD hS hA [0, 1, 2, 3] rfl (by decide))) rfl rfl hl.1 rfl (lv_room (Nat.le_of_ble_eq_true rfl)) d_CRd_nextBit_126 ⟨(Nat.le_of_ble_eq_true rfl), (Nat.le_of_ble_eq_true rfl)⟩) hP hD hS hA [0, 1, 2, 3] [4, 5, 6] rfl rfl (by decide) (by decide) (fun zz uu H locs hw53 hz54 hP hD hS => ?_)
        obtain ⟨la_47, va_48, sz_49, rm_50, cm_51⟩ := uu
        have hw53 : la_47 = (ren 15 L pl ln la va x2 rm cm).1 ∧ va_48 = (ren 15 L pl ln la va x2 rm cm).2.1 ∧ sz_49 = (ren 15 L pl ln la va x2 rm cm).2.2.1 ∧ rm_50 = (ren 15 L pl ln la va x2 rm cm).2.2.2.1 ∧ cm_51 = (ren 15 L pl ln la va x2 rm cm).2.2.2.2 := hw53
        have hP : va_P D vwCl [(qc, .inr (1, [.ref qf, .ref qg])), (qf, .inl (k.1, 19, .inl sf_42)), (qg, .inl (k.1, 19, .inl lf_43)), (h0, .inr (5, [.ref qs, .ref qc, .int la_47, .int va_48, .int sz_49, .int rm_50])), (qs, .inr (3, [.ref qr, .int pl, .int ln, .int cm_51])), (qr, .inr (0, [.ref qa, .int u])), (qa, .inl (k.1, n, .inl f))] H := hP
        have hD : va_D A [(qc, .inr (1, [.ref qf, .ref qg])), (qf, .inl (k.1, 19, .inl sf_42)), (qg, .inl (k.1, 19, .inl lf_43)), (h0, .inr (5, [.ref qs, .ref qc, .int la_47, .int va_48, .int sz_49, .int rm_50])), (qs, .inr (3, [.ref qr, .int pl, .int ln, .int cm_51])), (qr, .inr (0, [.ref qa, .int u])), (qa, .inl (k.1, n, .inl f))] := hD
        refine lv_iload hx hb d_CRd_nextBit_129 (lv_at hl 0 rfl) ?_
        refine lv_if_eq (tgt := 138) hx hb d_CRd_nextBit_131 (by decide) (fun c55 => ?_) (fun c55 => ?_)
        · refine lv_iconst (v := 1) hx hb d_CRd_nextBit_138 (by decide) ?_
          refine lv_iload_n hx hb d_CRd_nextBit_139 rfl (lv_at hl 1 rfl) ?_
          refine lv_isub hx hb d_CRd_nextBit_140 ?_
          exact kri (wo := wo_CRd_nextBit k h0 qs qr qa qc qf qg la va sz rm pl ln cm sf lf n f u L x) hx hb hr hlk hP hD hS (la_47, va_48, sz_49, rm_50, cm_51, sf_42, lf_43) () (by obtain ⟨rfl, rfl, rfl, rfl, rfl⟩ := hw53; obtain ⟨rfl, rfl⟩ := hw45; subst ex5; subst ex4; subst ex2; simp [po_CRd_nextBit, rnb, rfL, rfO, c6, c40, c41, c55]) trivial [3, 4, 5, 6, 0, 1, 2] rfl (by decide) (Nat.le_of_ble_eq_true rfl) (Nat.le_of_ble_eq_true rfl) d_CRd_nextBit_141
        · exact absurd rfl c55
      · exact absurd rfl c41
    · refine lv_iconst (v := 1) hx hb d_CRd_nextBit_47 (by decide) ?_
      refine lv_goto (tgt := 52) hx hb d_CRd_nextBit_48 (by decide) ?_
      refine lv_istore (lv' := [(4, .int 1), (3, .int x4), (2, .int x2), (0, .ref h0), (1, .int x)]) hx hb d_CRd_nextBit_52 hl (by decide) rfl (fun ls hl => ?_)
      refine lv_aload_n hx hb d_CRd_nextBit_54 rfl (lv_at hl 3 rfl) ?_
      refine lv_iload_n hx hb d_CRd_nextBit_55 rfl (lv_at hl 2 rfl) ?_
      refine va_put (D := D) (ci := 5) (v := .int x2) (ty := .int) (C := R_CRd) (T := T_CRd) (N := 6) hx hb hts inw_CRd ty_CRd tyok_CRd nm_CRd hown hK hP hD hS 0 rfl rfl 4 (by decide) (hts (.fieldLink R_CRd 33 "LikelyBits$CodedReader" "size" "I") mw_162) (fun _ h9 => h9) rfl (by decide +kernel) rfl rfl (Nat.le_of_ble_eq_true rfl) d_CRd_nextBit_56 (fun H locs hP hD hS => ?_)
      have hP : va_P D vwCl [(h0, .inr (5, [.ref qs, .ref qc, .int la, .int va, .int x2, .int rm])), (qs, .inr (3, [.ref qr, .int pl, .int ln, .int cm])), (qr, .inr (0, [.ref qa, .int u])), (qa, .inl (k.1, n, .inl f)), (qc, .inr (1, [.ref qf, .ref qg])), (qf, .inl (k.1, 19, .inl sf)), (qg, .inl (k.1, 19, .inl lf))] H := hP
      have hD : va_D A [(h0, .inr (5, [.ref qs, .ref qc, .int la, .int va, .int x2, .int rm])), (qs, .inr (3, [.ref qr, .int pl, .int ln, .int cm])), (qr, .inr (0, [.ref qa, .int u])), (qa, .inl (k.1, n, .inl f)), (qc, .inr (1, [.ref qf, .ref qg])), (qf, .inl (k.1, 19, .inl sf)), (qg, .inl (k.1, 19, .inl lf))] := hD
      refine lv_goto (tgt := 101) hx hb d_CRd_nextBit_59 (by decide) ?_
      refine lv_iload hx hb d_CRd_nextBit_101 (lv_at hl 0 rfl) ?_
      refine lv_if_eq (tgt := 117) hx hb d_CRd_nextBit_103 (by decide) (fun c56 => ?_) (fun c56 => ?_)
      · exact absurd c56 (by decide)
      · refine lv_aload_n hx hb d_CRd_nextBit_106 rfl (lv_at hl 3 rfl) ?_
        refine va_get (D := D) (ci := 5) (v := .ref qc) (C := R_CRd) (T := T_CRd) (N := 6) hx hb hts inw_CRd hown hK hP 0 rfl rfl 1 (by decide) (hts (.fieldLink R_CRd 15 "LikelyBits$CodedReader" "contexts" "LLikelyBits$Contexts;") mw_151) (fun _ h9 => h9) rfl d_CRd_nextBit_107 ?_
        refine lv_iload_n hx hb d_CRd_nextBit_110 rfl (lv_at hl 4 rfl) ?_
        refine kcv (wc := [(qc, .inr (1, [.ref qf, .ref qg])), (qf, .inl (k.1, 19, .inl sf)), (qg, .inl (k.1, 19, .inl lf))]) (wr := [(h0, .inr (5, [.ref qs, .ref qc, .int la, .int va, .int x2, .int rm])), (qs, .inr (3, [.ref qr, .int pl, .int ln, .int cm])), (qr, .inr (0, [.ref qa, .int u])), (qa, .inl (k.1, n, .inl f))]) (va_runV (As := [.int x]) (rest := []) ⟨hx, hb, hml, hown, hts⟩ (c_Cxt_afterLikely l hl9 D k qc qf qg H.size sf lf x ) (cwV 1 hts (gV mw_175 mw_98 mw_99 mw_23 mw_100) rfl rfl rfl (by decide +kernel) ⟨(Nat.le_of_ble_eq_true rfl), (Nat.le_of_ble_eq_true rfl)⟩) (kRecv (q := (R_Cxt, T_Cxt, 2)) (q0 := 4) (ci := 1) hK hP rfl rfl (kPre (wc := [(qc, .inr (1, [.ref qf, .ref qg])), (qf, .inl (k.1, 19, .inl sf)), (qg, .inl (k.1, 19, .inl lf))]) hE hK hP hD hS hA [4, 5, 6] rfl (by decide))) rfl rfl hl.1 rfl (lv_room (Nat.le_of_ble_eq_true rfl)) d_CRd_nextBit_111 ⟨(Nat.le_of_ble_eq_true rfl), (Nat.le_of_ble_eq_true rfl)⟩) hP hD hS hA [4, 5, 6] [0, 1, 2, 3] rfl rfl (by decide) (by decide) (fun zz uu H locs hw60 hz61 hP hD hS => ?_)
        obtain ⟨sf_57, lf_58⟩ := uu
        have hw60 : sf_57 = (cLk sf lf x).1 ∧ lf_58 = (cLk sf lf x).2 := hw60
        have hP : va_P D vwCl [(h0, .inr (5, [.ref qs, .ref qc, .int la, .int va, .int x2, .int rm])), (qs, .inr (3, [.ref qr, .int pl, .int ln, .int cm])), (qr, .inr (0, [.ref qa, .int u])), (qa, .inl (k.1, n, .inl f)), (qc, .inr (1, [.ref qf, .ref qg])), (qf, .inl (k.1, 19, .inl sf_57)), (qg, .inl (k.1, 19, .inl lf_58))] H := hP
        have hD : va_D A [(h0, .inr (5, [.ref qs, .ref qc, .int la, .int va, .int x2, .int rm])), (qs, .inr (3, [.ref qr, .int pl, .int ln, .int cm])), (qr, .inr (0, [.ref qa, .int u])), (qa, .inl (k.1, n, .inl f)), (qc, .inr (1, [.ref qf, .ref qg])), (qf, .inl (k.1, 19, .inl sf_57)), (qg, .inl (k.1, 19, .inl lf_58))] := hD
        refine lv_goto (tgt := 125) hx hb d_CRd_nextBit_114 (by decide) ?_
        refine lv_aload_n hx hb d_CRd_nextBit_125 rfl (lv_at hl 3 rfl) ?_
        refine kcv (wc := [(h0, .inr (5, [.ref qs, .ref qc, .int la, .int va, .int x2, .int rm])), (qs, .inr (3, [.ref qr, .int pl, .int ln, .int cm])), (qr, .inr (0, [.ref qa, .int u])), (qa, .inl (k.1, n, .inl f))]) (wr := [(qc, .inr (1, [.ref qf, .ref qg])), (qf, .inl (k.1, 19, .inl sf_57)), (qg, .inl (k.1, 19, .inl lf_58))]) (va_runV (As := []) (rest := []) ⟨hx, hb, hml, hown, hts⟩ (c_CRd_enlarge l hl9 D k h0 qs qr qa H.size qc la va x2 rm pl ln cm n f u L (by assumption)) (cwV 0 hts (gV mw_171 mw_172 mw_173 mw_166 mw_174) rfl rfl rfl (by decide +kernel) ⟨(Nat.le_of_ble_eq_true rfl), (Nat.le_of_ble_eq_true rfl)⟩) (kRecv (q := (R_CRd, T_CRd, 6)) (q0 := 0) (ci := 5) hK hP rfl rfl (kPre (wc := [(h0, .inr (5, [.ref qs, .ref qc, .int la, .int va, .int x2, .int rm])), (qs, .inr (3, [.ref qr, .int pl, .int ln, .int cm])), (qr, .inr (0, [.ref qa, .int u])), (qa, .inl (k.1, n, .inl f))]) hE hK hP hD hS hA [0, 1, 2, 3] rfl (by decide))) rfl rfl hl.1 rfl (lv_room (Nat.le_of_ble_eq_true rfl)) d_CRd_nextBit_126 ⟨(Nat.le_of_ble_eq_true rfl), (Nat.le_of_ble_eq_true rfl)⟩) hP hD hS hA [0, 1, 2, 3] [4, 5, 6] rfl rfl (by decide) (by decide) (fun zz uu H locs hw68 hz69 hP hD hS => ?_)
        obtain ⟨la_62, va_63, sz_64, rm_65, cm_66⟩ := uu
        have hw68 : la_62 = (ren 15 L pl ln la va x2 rm cm).1 ∧ va_63 = (ren 15 L pl ln la va x2 rm cm).2.1 ∧ sz_64 = (ren 15 L pl ln la va x2 rm cm).2.2.1 ∧ rm_65 = (ren 15 L pl ln la va x2 rm cm).2.2.2.1 ∧ cm_66 = (ren 15 L pl ln la va x2 rm cm).2.2.2.2 := hw68
        have hP : va_P D vwCl [(qc, .inr (1, [.ref qf, .ref qg])), (qf, .inl (k.1, 19, .inl sf_57)), (qg, .inl (k.1, 19, .inl lf_58)), (h0, .inr (5, [.ref qs, .ref qc, .int la_62, .int va_63, .int sz_64, .int rm_65])), (qs, .inr (3, [.ref qr, .int pl, .int ln, .int cm_66])), (qr, .inr (0, [.ref qa, .int u])), (qa, .inl (k.1, n, .inl f))] H := hP
        have hD : va_D A [(qc, .inr (1, [.ref qf, .ref qg])), (qf, .inl (k.1, 19, .inl sf_57)), (qg, .inl (k.1, 19, .inl lf_58)), (h0, .inr (5, [.ref qs, .ref qc, .int la_62, .int va_63, .int sz_64, .int rm_65])), (qs, .inr (3, [.ref qr, .int pl, .int ln, .int cm_66])), (qr, .inr (0, [.ref qa, .int u])), (qa, .inl (k.1, n, .inl f))] := hD
        refine lv_iload hx hb d_CRd_nextBit_129 (lv_at hl 0 rfl) ?_
        refine lv_if_eq (tgt := 138) hx hb d_CRd_nextBit_131 (by decide) (fun c70 => ?_) (fun c70 => ?_)
        · exact absurd c70 (by decide)
        · refine lv_iload_n hx hb d_CRd_nextBit_134 rfl (lv_at hl 1 rfl) ?_
          refine lv_goto (tgt := 141) hx hb d_CRd_nextBit_135 (by decide) ?_
          exact kri (wo := wo_CRd_nextBit k h0 qs qr qa qc qf qg la va sz rm pl ln cm sf lf n f u L x) hx hb hr hlk hP hD hS (la_62, va_63, sz_64, rm_65, cm_66, sf_57, lf_58) () (by obtain ⟨rfl, rfl, rfl, rfl, rfl⟩ := hw68; obtain ⟨rfl, rfl⟩ := hw60; subst ex5; subst ex4; subst ex2; simp [po_CRd_nextBit, rnb, rfL, rfO, c6, c40, c56, c70]) trivial [3, 4, 5, 6, 0, 1, 2] rfl (by decide) (Nat.le_of_ble_eq_true rfl) (Nat.le_of_ble_eq_true rfl) d_CRd_nextBit_141

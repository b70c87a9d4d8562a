set_option maxRecDepth 20000 in
theorem mw_105 : (Cond.methodLink R_CWr 30 y_Cxt_partOf) ∈ AW := inAW (List.mem_append_right _ (show _ ∈ tables_1_1 ++ (tables_1_2 ++ (tables_1_3 ++ tables_1_4)) from (List.mem_append_right _ (List.mem_append_right _ (List.mem_append_left _ (List.mem_of_getElem? (i := 17) rfl)))))) rfl
set_option maxRecDepth 20000 in
theorem mw_106 : (Cond.instanceMethod y_Cxt_partOf) ∈ AW := inAW (List.mem_append_right _ (show _ ∈ tables_1_1 ++ (tables_1_2 ++ (tables_1_3 ++ tables_1_4)) from (List.mem_append_right _ (List.mem_append_right _ (List.mem_append_left _ (List.mem_of_getElem? (i := 18) rfl)))))) rfl
set_option maxRecDepth 20000 in
theorem mw_107 : (Cond.selects R_Cxt y_Cxt_partOf y_Cxt_partOf) ∈ AW := inAW (List.mem_append_right _ (show _ ∈ tables_1_1 ++ (tables_1_2 ++ (tables_1_3 ++ tables_1_4)) from (List.mem_append_right _ (List.mem_append_right _ (List.mem_append_left _ (List.mem_of_getElem? (i := 19) rfl)))))) rfl
set_option maxRecDepth 20000 in
theorem mw_108 : (Cond.code y_Cxt_partOf b_Cxt_partOf 2 (some .int)) ∈ AW := inAW (List.mem_append_right _ (show _ ∈ tables_1_1 ++ (tables_1_2 ++ (tables_1_3 ++ tables_1_4)) from (List.mem_append_right _ (List.mem_append_right _ (List.mem_append_left _ (List.mem_of_getElem? (i := 20) rfl)))))) rfl
set_option maxRecDepth 20000 in
theorem mw_109 : (Cond.methodLink R_CWr 36 y_Cxt_likelyBitOf) ∈ AW := inAW (List.mem_append_right _ (show _ ∈ tables_1_1 ++ (tables_1_2 ++ (tables_1_3 ++ tables_1_4)) from (List.mem_append_right _ (List.mem_append_right _ (List.mem_append_left _ (List.mem_of_getElem? (i := 24) rfl)))))) rfl
set_option maxRecDepth 20000 in
theorem mw_110 : (Cond.methodLink R_CWr 43 y_CWr_addOther) ∈ AW := inAW (List.mem_append_right _ (show _ ∈ tables_1_1 ++ (tables_1_2 ++ (tables_1_3 ++ tables_1_4)) from (List.mem_append_right _ (List.mem_append_right _ (List.mem_append_left _ (List.mem_of_getElem? (i := 37) rfl)))))) rfl
set_option maxRecDepth 20000 in
theorem mw_111 : (Cond.instanceMethod y_CWr_addOther) ∈ AW := inAW (List.mem_append_right _ (show _ ∈ tables_1_1 ++ (tables_1_2 ++ (tables_1_3 ++ tables_1_4)) from (List.mem_append_right _ (List.mem_append_right _ (List.mem_append_left _ (List.mem_of_getElem? (i := 39) rfl)))))) rfl
set_option maxRecDepth 20000 in
theorem mw_112 : (Cond.selects R_CWr y_CWr_addOther y_CWr_addOther) ∈ AW := inAW (List.mem_append_left _ (List.mem_of_getElem? (i := 4) rfl)) rfl
set_option maxRecDepth 20000 in
theorem mw_113 : (Cond.code y_CWr_addOther b_CWr_addOther 3 none) ∈ AW := inAW (List.mem_append_right _ (show _ ∈ tables_1_1 ++ (tables_1_2 ++ (tables_1_3 ++ tables_1_4)) from (List.mem_append_right _ (List.mem_append_right _ (List.mem_append_left _ (List.mem_of_getElem? (i := 40) rfl)))))) rfl
set_option maxRecDepth 20000 in
theorem mw_114 : (Cond.methodLink R_CWr 46 y_CWr_enlarge) ∈ AW := inAW (List.mem_append_right _ (show _ ∈ tables_1_1 ++ (tables_1_2 ++ (tables_1_3 ++ tables_1_4)) from (List.mem_append_right _ (List.mem_append_right _ (List.mem_append_left _ (List.mem_of_getElem? (i := 50) rfl)))))) rfl
set_option maxRecDepth 20000 in
theorem mw_115 : (Cond.instanceMethod y_CWr_enlarge) ∈ AW := inAW (List.mem_append_right _ (show _ ∈ tables_1_1 ++ (tables_1_2 ++ (tables_1_3 ++ tables_1_4)) from (List.mem_append_right _ (List.mem_append_right _ (List.mem_append_left _ (List.mem_of_getElem? (i := 52) rfl)))))) rfl
set_option maxRecDepth 20000 in
theorem mw_116 : (Cond.selects R_CWr y_CWr_enlarge y_CWr_enlarge) ∈ AW := inAW (List.mem_append_left _ (List.mem_of_getElem? (i := 5) rfl)) rfl
set_option maxRecDepth 20000 in
theorem mw_117 : (Cond.code y_CWr_enlarge b_CWr_enlarge 2 none) ∈ AW := inAW (List.mem_append_right _ (show _ ∈ tables_1_1 ++ (tables_1_2 ++ (tables_1_3 ++ tables_1_4)) from (List.mem_append_right _ (List.mem_append_right _ (List.mem_append_left _ (List.mem_of_getElem? (i := 53) rfl)))))) rfl
set_option maxRecDepth 20000 in
theorem mw_118 : (Cond.methodLink R_CWr 39 y_CWr_addLikely) ∈ AW := inAW (List.mem_append_right _ (show _ ∈ tables_1_1 ++ (tables_1_2 ++ (tables_1_3 ++ tables_1_4)) from (List.mem_append_right _ (List.mem_append_right _ (List.mem_append_left _ (List.mem_of_getElem? (i := 25) rfl)))))) rfl
set_option maxRecDepth 20000 in
theorem mw_119 : (Cond.instanceMethod y_CWr_addLikely) ∈ AW := inAW (List.mem_append_right _ (show _ ∈ tables_1_1 ++ (tables_1_2 ++ (tables_1_3 ++ tables_1_4)) from (List.mem_append_right _ (List.mem_append_right _ (List.mem_append_left _ (List.mem_of_getElem? (i := 27) rfl)))))) rfl
set_option maxRecDepth 20000 in
theorem mw_120 : (Cond.selects R_CWr y_CWr_addLikely y_CWr_addLikely) ∈ AW := inAW (List.mem_append_left _ (List.mem_of_getElem? (i := 3) rfl)) rfl
set_option maxRecDepth 20000 in
theorem mw_121 : (Cond.code y_CWr_addLikely b_CWr_addLikely 3 none) ∈ AW := inAW (List.mem_append_right _ (show _ ∈ tables_1_1 ++ (tables_1_2 ++ (tables_1_3 ++ tables_1_4)) from (List.mem_append_right _ (List.mem_append_right _ (List.mem_append_left _ (List.mem_of_getElem? (i := 28) rfl)))))) rfl
set_option maxRecDepth 20000 in
theorem mw_122 : (Cond.constant R_CWr 72 65535) ∈ AW := inAW (List.mem_append_right _ (show _ ∈ tables_1_1 ++ (tables_1_2 ++ (tables_1_3 ++ tables_1_4)) from (List.mem_append_right _ (List.mem_append_right _ (List.mem_append_left _ (List.mem_of_getElem? (i := 87) rfl)))))) rfl
set_option maxRecDepth 20000 in
theorem mw_123 : (Cond.methodLink R_CWr 73 y_CWr_fillByteOut) ∈ AW := inAW (List.mem_append_right _ (show _ ∈ tables_1_1 ++ (tables_1_2 ++ (tables_1_3 ++ tables_1_4)) from (List.mem_append_right _ (List.mem_append_right _ (List.mem_append_left _ (List.mem_of_getElem? (i := 88) rfl)))))) rfl
set_option maxRecDepth 20000 in
theorem mw_124 : (Cond.instanceMethod y_CWr_fillByteOut) ∈ AW := inAW (List.mem_append_right _ (show _ ∈ tables_1_1 ++ (tables_1_2 ++ (tables_1_3 ++ tables_1_4)) from (List.mem_append_right _ (List.mem_append_right _ (List.mem_append_left _ (List.mem_of_getElem? (i := 90) rfl)))))) rfl
set_option maxRecDepth 20000 in
theorem mw_125 : (Cond.selects R_CWr y_CWr_fillByteOut y_CWr_fillByteOut) ∈ AW := inAW (List.mem_append_left _ (List.mem_of_getElem? (i := 7) rfl)) rfl
set_option maxRecDepth 20000 in
theorem mw_126 : (Cond.code y_CWr_fillByteOut b_CWr_fillByteOut 1 none) ∈ AW := inAW (List.mem_append_right _ (show _ ∈ tables_1_1 ++ (tables_1_2 ++ (tables_1_3 ++ tables_1_4)) from (List.mem_append_right _ (List.mem_append_right _ (List.mem_append_left _ (List.mem_of_getElem? (i := 91) rfl)))))) rfl
def wo_CWr_add (k : gK) (h0 qs qr qa qc qf qg : Nat) (lo : Int32) (sz : Int32) (rm : Int32) (sf : Nat → Int32) (lf : Nat → Int32) (a : Int32) (n : Nat) (f : Nat → Int32) (u : Int32) (L : List Int32) (x : Int32) (bit : Int32) (zz : Nat × (Nat → Int32) × Int32) (uu : Int32 × Int32 × Int32 × (Nat → Int32) × (Nat → Int32) × Nat × List Int32) : va_W := match zz, uu with
  | (q2, f2, u2), (lo2, sz2, rm2, sf2, lf2, n2, L2) => [(h0, .inr (4, [.ref qs, .ref qc, .int lo2, .int sz2, .int rm2])), (qs, .inr (2, [.ref qr, .int a])), (qr, .inr (0, [.ref q2, .int u2])), (q2, .inl (k.1, n2, .inl f2)), (qc, .inr (1, [.ref qf, .ref qg])), (qf, .inl (k.1, 19, .inl sf2)), (qg, .inl (k.1, 19, .inl lf2))]
def ex_CWr_add (k : gK) (h0 qs qr qa qc qf qg : Nat) (lo : Int32) (sz : Int32) (rm : Int32) (sf : Nat → Int32) (lf : Nat → Int32) (a : Int32) (n : Nat) (f : Nat → Int32) (u : Int32) (L : List Int32) (x : Int32) (bit : Int32) (zz : Nat × (Nat → Int32) × Int32) (uu : Int32 × Int32 × Int32 × (Nat → Int32) × (Nat → Int32) × Nat × List Int32) : Prop := match zz, uu with
  | (q2, f2, u2), (lo2, sz2, rm2, sf2, lf2, n2, L2) => row_ok n2 f2 u2 L2
def po_CWr_add (k : gK) (h0 qs qr qa qc qf qg : Nat) (lo : Int32) (sz : Int32) (rm : Int32) (sf : Nat → Int32) (lf : Nat → Int32) (a : Int32) (n : Nat) (f : Nat → Int32) (u : Int32) (L : List Int32) (x : Int32) (bit : Int32) (uu : Int32 × Int32 × Int32 × (Nat → Int32) × (Nat → Int32) × Nat × List Int32) : Prop := match uu with
  | (lo2, sz2, rm2, sf2, lf2, n2, L2) => lo2 = (wad a lo sz rm sf lf n L x bit).1 ∧ sz2 = (wad a lo sz rm sf lf n L x bit).2.1 ∧ rm2 = (wad a lo sz rm sf lf n L x bit).2.2.1 ∧ sf2 = (wad a lo sz rm sf lf n L x bit).2.2.2.1 ∧ lf2 = (wad a lo sz rm sf lf n L x bit).2.2.2.2.1 ∧ n2 = (wad a lo sz rm sf lf n L x bit).2.2.2.2.2.1 ∧ L2 = (wad a lo sz rm sf lf n L x bit).2.2.2.2.2.2
def qc_CWr_add (D : va_G) (k : gK) (h0 qs qr qa qc qf qg : Nat) (lo : Int32) (sz : Int32) (rm : Int32) (sf : Nat → Int32) (lf : Nat → Int32) (a : Int32) (n : Nat) (f : Nat → Int32) (u : Int32) (L : List Int32) (x : Int32) (bit : Int32) (A : Nat → Prop) : Array Value → State → Outcome → State → Prop := va_Qv (po_CWr_add k h0 qs qr qa qc qf qg lo sz rm sf lf a n f u L x bit) (fun uu t => ∃ zz, ex_CWr_add k h0 qs qr qa qc qf qg lo sz rm sf lf a n f u L x bit zz uu ∧ GP D A (wo_CWr_add k h0 qs qr qa qc qf qg lo sz rm sf lf a n f u L x bit zz uu) t) A
set_option maxHeartbeats 1000000 in
set_option maxRecDepth 100000 in
theorem c_CWr_add (l : Launch) (hl9 : l.stackTraces = false) (D : va_G) (k : gK) (h0 qs qr qa qc qf qg : Nat) (zsz : Nat) (lo : Int32) (sz : Int32) (rm : Int32) (sf : Nat → Int32) (lf : Nat → Int32) (a : Int32) (n : Nat) (f : Nat → Int32) (u : Int32) (L : List Int32) (x : Int32) (bit : Int32) (hR : row_ok n f u L) : Met l y_CWr_add (.code y_CWr_add b_CWr_add 4 none :: AW) ({ frames := 6, cells := (wad a lo sz rm sf lf n L x bit).2.2.2.2.2.1 - n, slots := 2 * ((wad a lo sz rm sf lf n L x bit).2.2.2.2.2.1 - n), locals := 167 }) (va_Pc [.ref h0, .int x, .int bit] (GG D k [(h0, .inr (4, [.ref qs, .ref qc, .int lo, .int sz, .int rm])), (qs, .inr (2, [.ref qr, .int a])), (qr, .inr (0, [.ref qa, .int u])), (qa, .inl (k.1, n, .inl f)), (qc, .inr (1, [.ref qf, .ref qg])), (qf, .inl (k.1, 19, .inl sf)), (qg, .inl (k.1, 19, .inl lf))] zsz)) (qc_CWr_add D k h0 qs qr qa qc qf qg lo sz rm sf lf a n f u L x bit (va_A [(h0, .inr (4, [.ref qs, .ref qc, .int lo, .int sz, .int rm])), (qs, .inr (2, [.ref qr, .int a])), (qr, .inr (0, [.ref qa, .int u])), (qa, .inl (k.1, n, .inl f)), (qc, .inr (1, [.ref qf, .ref qg])), (qf, .inl (k.1, 19, .inl sf)), (qg, .inl (k.1, 19, .inl lf))] zsz)) ((wad a lo sz rm sf lf n L x bit).2.2.2.2.2.1 - n) (2 * ((wad a lo sz rm sf lf n L x bit).2.2.2.2.2.1 - n)) (va_A [(h0, .inr (4, [.ref qs, .ref qc, .int lo, .int sz, .int rm])), (qs, .inr (2, [.ref qr, .int a])), (qr, .inr (0, [.ref qa, .int u])), (qa, .inl (k.1, n, .inl f)), (qc, .inr (1, [.ref qf, .ref qg])), (qf, .inl (k.1, 19, .inl sf)), (qg, .inl (k.1, 19, .inl lf))] zsz) := by
  refine kMet (ws := [(h0, .inr (4, [.ref qs, .ref qc, .int lo, .int sz, .int rm])), (qs, .inr (2, [.ref qr, .int a])), (qr, .inr (0, [.ref qa, .int u])), (qa, .inl (k.1, n, .inl f)), (qc, .inr (1, [.ref qf, .ref qg])), (qf, .inl (k.1, 19, .inl sf)), (qg, .inl (k.1, 19, .inl lf))]) (Qc := qc_CWr_add D k h0 qs qr qa qc qf qg lo sz rm sf lf a n f u L x bit) (by decide) (Nat.le_of_ble_eq_true rfl) (fun p e s m below meth c ls A H Cc hP hD hA hS hl => ?_)
  obtain ⟨hx, hb, hml, hr, hlk, hown, hts, hK, hE, hin⟩ := Cc
  have hl : lv_has ls 4 [(0, .ref h0), (1, .int x), (2, .int bit)] := hl
  refine lv_aload_n hx hb d_CWr_add_0 rfl (lv_at hl 0 rfl) ?_
  refine va_get (D := D) (ci := 4) (v := .ref qc) (C := R_CWr) (T := T_CWr) (N := 5) hx hb hts inw_CWr hown hK hP 0 rfl rfl 1 (by decide) (hts (.fieldLink R_CWr 15 "LikelyBits$CodedWriter" "contexts" "LLikelyBits$Contexts;") mw_77) (fun _ h9 => h9) rfl d_CWr_add_1 ?_
  refine lv_iload_n hx hb d_CWr_add_4 rfl (lv_at hl 1 rfl) ?_
  refine kqi (va_runV (As := [.int x]) (rest := []) ⟨hx, hb, hml, hown, hts⟩ (c_Cxt_partOf l hl9 D k qc qf qg sf lf x ) (cwV 1 hts (gV mw_105 mw_106 mw_107 mw_23 mw_108) rfl rfl rfl (by decide +kernel) ⟨(Nat.le_of_ble_eq_true rfl), (Nat.le_of_ble_eq_true rfl)⟩) (kRecv (q := (R_Cxt, T_Cxt, 2)) (q0 := 4) (ci := 1) hK hP rfl rfl (kPreR (wc := [(qc, .inr (1, [.ref qf, .ref qg])), (qf, .inl (k.1, 19, .inl sf)), (qg, .inl (k.1, 19, .inl lf))]) hE hK hP hS [4, 5, 6] rfl)) rfl rfl hl.1 rfl (lv_room (Nat.le_of_ble_eq_true rfl)) d_CWr_add_5 ⟨(Nat.le_of_ble_eq_true rfl), (Nat.le_of_ble_eq_true rfl)⟩) hP hS (fun r1 H locs hw hP hS => ?_)
  replace hw := hw.symm
  subst hw
  refine lv_topi (fun x2 ex2 => ?_)
  refine lv_istore_n (lv' := [(3, .int x2), (0, .ref h0), (1, .int x), (2, .int bit)]) hx hb d_CWr_add_8 rfl hl (by decide) rfl (fun ls hl => ?_)
  refine lv_aload_n hx hb d_CWr_add_9 rfl (lv_at hl 1 rfl) ?_
  refine lv_dup hx hb d_CWr_add_10 rfl ?_
  refine va_get (D := D) (ci := 4) (v := .int sz) (C := R_CWr) (T := T_CWr) (N := 5) hx hb hts inw_CWr hown hK hP 0 rfl rfl 3 (by decide) (hts (.fieldLink R_CWr 24 "LikelyBits$CodedWriter" "size" "I") mw_80) (fun _ h9 => h9) rfl d_CWr_add_11 ?_
  refine lv_iload_n hx hb d_CWr_add_14 rfl (lv_at hl 0 rfl) ?_
  refine lv_isub hx hb d_CWr_add_15 ?_
  refine lv_topi (fun x3 ex3 => ?_)
  refine va_put (D := D) (ci := 4) (v := .int x3) (ty := .int) (C := R_CWr) (T := T_CWr) (N := 5) hx hb hts inw_CWr ty_CWr tyok_CWr nm_CWr hown hK hP hD hS 0 rfl rfl 3 (by decide) (hts (.fieldLink R_CWr 24 "LikelyBits$CodedWriter" "size" "I") mw_80) (fun _ h9 => h9) rfl (by decide +kernel) rfl rfl (Nat.le_of_ble_eq_true rfl) d_CWr_add_16 (fun H locs hP hD hS => ?_)
  have hP : va_P D vwCl [(h0, .inr (4, [.ref qs, .ref qc, .int lo, .int x3, .int rm])), (qs, .inr (2, [.ref qr, .int a])), (qr, .inr (0, [.ref qa, .int u])), (qa, .inl (k.1, n, .inl f)), (qc, .inr (1, [.ref qf, .ref qg])), (qf, .inl (k.1, 19, .inl sf)), (qg, .inl (k.1, 19, .inl lf))] H := hP
  have hD : va_D A [(h0, .inr (4, [.ref qs, .ref qc, .int lo, .int x3, .int rm])), (qs, .inr (2, [.ref qr, .int a])), (qr, .inr (0, [.ref qa, .int u])), (qa, .inl (k.1, n, .inl f)), (qc, .inr (1, [.ref qf, .ref qg])), (qf, .inl (k.1, 19, .inl sf)), (qg, .inl (k.1, 19, .inl lf))] := hD
  refine lv_iload_n hx hb d_CWr_add_19 rfl (lv_at hl 3 rfl) ?_
  refine lv_aload_n hx hb d_CWr_add_20 rfl (lv_at hl 1 rfl) ?_
  refine va_get (D := D) (ci := 4) (v := .ref qc) (C := R_CWr) (T := T_CWr) (N := 5) hx hb hts inw_CWr hown hK hP 0 rfl rfl 1 (by decide) (hts (.fieldLink R_CWr 15 "LikelyBits$CodedWriter" "contexts" "LLikelyBits$Contexts;") mw_77) (fun _ h9 => h9) rfl d_CWr_add_21 ?_
  refine lv_iload_n hx hb d_CWr_add_24 rfl (lv_at hl 2 rfl) ?_
  refine kqi (va_runV (As := [.int x]) (rest := [.int bit]) ⟨hx, hb, hml, hown, hts⟩ (c_Cxt_likelyBitOf l hl9 D k qc qf qg sf lf x ) (cwV 1 hts (gV mw_109 mw_31 mw_32 mw_23 mw_33) rfl rfl rfl (by decide +kernel) ⟨(Nat.le_of_ble_eq_true rfl), (Nat.le_of_ble_eq_true rfl)⟩) (kRecv (q := (R_Cxt, T_Cxt, 2)) (q0 := 4) (ci := 1) hK hP rfl rfl (kPreR (wc := [(qc, .inr (1, [.ref qf, .ref qg])), (qf, .inl (k.1, 19, .inl sf)), (qg, .inl (k.1, 19, .inl lf))]) hE hK hP hS [4, 5, 6] rfl)) rfl rfl hl.1 rfl (lv_room (Nat.le_of_ble_eq_true rfl)) d_CWr_add_25 ⟨(Nat.le_of_ble_eq_true rfl), (Nat.le_of_ble_eq_true rfl)⟩) hP hS (fun r4 H locs hw hP hS => ?_)
  replace hw := hw.symm
  subst hw
  refine lv_icmp_ne (tgt := 40) hx hb d_CWr_add_28 (by decide) (fun c5 => ?_) (fun c5 => ?_)
  · refine lv_aload_n hx hb d_CWr_add_40 rfl (lv_at hl 1 rfl) ?_
    refine lv_iload_n hx hb d_CWr_add_41 rfl (lv_at hl 2 rfl) ?_
    refine lv_iload_n hx hb d_CWr_add_42 rfl (lv_at hl 0 rfl) ?_
    refine kcv (wc := [(h0, .inr (4, [.ref qs, .ref qc, .int lo, .int x3, .int rm])), (qc, .inr (1, [.ref qf, .ref qg])), (qf, .inl (k.1, 19, .inl sf)), (qg, .inl (k.1, 19, .inl lf))]) (wr := [(qs, .inr (2, [.ref qr, .int a])), (qr, .inr (0, [.ref qa, .int u])), (qa, .inl (k.1, n, .inl f))]) (va_runV (As := [.int x, .int x2]) (rest := []) ⟨hx, hb, hml, hown, hts⟩ (c_CWr_addOther l hl9 D k h0 qc qf qg H.size qs lo x3 rm sf lf x x2 ) (cwV 2 hts (gV mw_110 mw_111 mw_112 mw_95 mw_113) rfl rfl rfl (by decide +kernel) ⟨(Nat.le_of_ble_eq_true rfl), (Nat.le_of_ble_eq_true rfl)⟩) (kRecv (q := (R_CWr, T_CWr, 5)) (q0 := 0) (ci := 4) hK hP rfl rfl (kPre (wc := [(h0, .inr (4, [.ref qs, .ref qc, .int lo, .int x3, .int rm])), (qc, .inr (1, [.ref qf, .ref qg])), (qf, .inl (k.1, 19, .inl sf)), (qg, .inl (k.1, 19, .inl lf))]) hE hK hP hD hS hA [0, 4, 5, 6] rfl (by decide))) rfl rfl hl.1 rfl (lv_room (Nat.le_of_ble_eq_true rfl)) d_CWr_add_43 ⟨(Nat.le_of_ble_eq_true rfl), (Nat.le_of_ble_eq_true rfl)⟩) hP hD hS hA [0, 4, 5, 6] [1, 2, 3] rfl rfl (by decide) (by decide) (fun zz uu H locs hw11 hz12 hP hD hS => ?_)
    obtain ⟨lo_6, sz_7, sf_8, lf_9⟩ := uu
    have hw11 : lo_6 = (aOt lo x3 sf lf x x2).1 ∧ sz_7 = (aOt lo x3 sf lf x x2).2.1 ∧ sf_8 = (aOt lo x3 sf lf x x2).2.2.1 ∧ lf_9 = (aOt lo x3 sf lf x x2).2.2.2 := hw11
    have hP : va_P D vwCl [(qs, .inr (2, [.ref qr, .int a])), (qr, .inr (0, [.ref qa, .int u])), (qa, .inl (k.1, n, .inl f)), (h0, .inr (4, [.ref qs, .ref qc, .int lo_6, .int sz_7, .int rm])), (qc, .inr (1, [.ref qf, .ref qg])), (qf, .inl (k.1, 19, .inl sf_8)), (qg, .inl (k.1, 19, .inl lf_9))] H := hP
    have hD : va_D A [(qs, .inr (2, [.ref qr, .int a])), (qr, .inr (0, [.ref qa, .int u])), (qa, .inl (k.1, n, .inl f)), (h0, .inr (4, [.ref qs, .ref qc, .int lo_6, .int sz_7, .int rm])), (qc, .inr (1, [.ref qf, .ref qg])), (qf, .inl (k.1, 19, .inl sf_8)), (qg, .inl (k.1, 19, .inl lf_9))] := hD
    refine lv_aload_n hx hb d_CWr_add_46 rfl (lv_at hl 1 rfl) ?_
    have hbn : (wad a lo sz rm sf lf n L x bit).2.2.2.2.2.1 = (enl 15 a lo_6 sz_7 rm n L).2.2.2.1 := (by obtain ⟨rfl, rfl, rfl, rfl⟩ := hw11; subst ex3; subst ex2; simp [wad, wa0, c5])
    refine kcv (wc := [(h0, .inr (4, [.ref qs, .ref qc, .int lo_6, .int sz_7, .int rm])), (qs, .inr (2, [.ref qr, .int a])), (qr, .inr (0, [.ref qa, .int u])), (qa, .inl (k.1, n, .inl f))]) (wr := [(qc, .inr (1, [.ref qf, .ref qg])), (qf, .inl (k.1, 19, .inl sf_8)), (qg, .inl (k.1, 19, .inl lf_9))]) (va_runV (As := []) (rest := []) ⟨hx, hb, hml, hown, hts⟩ (c_CWr_enlarge l hl9 D k h0 qs qr qa H.size qc lo_6 sz_7 rm a n f u L (by assumption)) (cwV 0 hts (gV mw_114 mw_115 mw_116 mw_95 mw_117) rfl rfl rfl (by decide +kernel) ⟨(Nat.le_of_ble_eq_true rfl), (Nat.le_of_ble_eq_true rfl)⟩) (kRecv (q := (R_CWr, T_CWr, 5)) (q0 := 3) (ci := 4) hK hP rfl rfl (kPre (wc := [(h0, .inr (4, [.ref qs, .ref qc, .int lo_6, .int sz_7, .int rm])), (qs, .inr (2, [.ref qr, .int a])), (qr, .inr (0, [.ref qa, .int u])), (qa, .inl (k.1, n, .inl f))]) hE hK hP hD hS hA [3, 0, 1, 2] rfl (by decide))) rfl rfl hl.1 rfl (lv_room (Nat.le_of_ble_eq_true rfl)) d_CWr_add_47 ⟨(by first | omega | (dsimp only; omega)), (by first | omega | (dsimp only; omega))⟩) hP hD hS hA [3, 0, 1, 2] [4, 5, 6] rfl rfl (by decide) (by decide) (fun zz uu H locs hw22 hz23 hP hD hS => ?_)
    obtain ⟨q_18, f_19, u_20⟩ := zz
    obtain ⟨lo_13, sz_14, rm_15, n_16, L_17⟩ := uu
    have hw22 : lo_13 = (enl 15 a lo_6 sz_7 rm n L).1 ∧ sz_14 = (enl 15 a lo_6 sz_7 rm n L).2.1 ∧ rm_15 = (enl 15 a lo_6 sz_7 rm n L).2.2.1 ∧ n_16 = (enl 15 a lo_6 sz_7 rm n L).2.2.2.1 ∧ L_17 = (enl 15 a lo_6 sz_7 rm n L).2.2.2.2 := hw22
    have hz23 : row_ok n_16 f_19 u_20 L_17 := hz23
    have hP : va_P D vwCl [(qc, .inr (1, [.ref qf, .ref qg])), (qf, .inl (k.1, 19, .inl sf_8)), (qg, .inl (k.1, 19, .inl lf_9)), (h0, .inr (4, [.ref qs, .ref qc, .int lo_13, .int sz_14, .int rm_15])), (qs, .inr (2, [.ref qr, .int a])), (qr, .inr (0, [.ref q_18, .int u_20])), (q_18, .inl (k.1, n_16, .inl f_19))] H := hP
    have hD : va_D A [(qc, .inr (1, [.ref qf, .ref qg])), (qf, .inl (k.1, 19, .inl sf_8)), (qg, .inl (k.1, 19, .inl lf_9)), (h0, .inr (4, [.ref qs, .ref qc, .int lo_13, .int sz_14, .int rm_15])), (qs, .inr (2, [.ref qr, .int a])), (qr, .inr (0, [.ref q_18, .int u_20])), (q_18, .inl (k.1, n_16, .inl f_19))] := hD
    exact krv (wo := wo_CWr_add k h0 qs qr qa qc qf qg lo sz rm sf lf a n f u L x bit) hx hb hr hlk hP hD hS (lo_13, sz_14, rm_15, sf_8, lf_9, n_16, L_17) (q_18, f_19, u_20) (by obtain ⟨rfl, rfl, rfl, rfl, rfl⟩ := hw22; obtain ⟨rfl, rfl, rfl, rfl⟩ := hw11; subst ex3; subst ex2; simp [po_CWr_add, wad, wa0, c5]) (by assumption) [3, 4, 5, 6, 0, 1, 2] rfl (by decide) (by first | omega | (dsimp only; omega)) (by first | omega | (dsimp only; omega)) d_CWr_add_50
  · refine lv_aload_n hx hb d_CWr_add_31 rfl (lv_at hl 1 rfl) ?_
    refine lv_iload_n hx hb d_CWr_add_32 rfl (lv_at hl 2 rfl) ?_
    refine lv_iload_n hx hb d_CWr_add_33 rfl (lv_at hl 0 rfl) ?_
    refine kcv (wc := [(h0, .inr (4, [.ref qs, .ref qc, .int lo, .int x3, .int rm])), (qc, .inr (1, [.ref qf, .ref qg])), (qf, .inl (k.1, 19, .inl sf)), (qg, .inl (k.1, 19, .inl lf))]) (wr := [(qs, .inr (2, [.ref qr, .int a])), (qr, .inr (0, [.ref qa, .int u])), (qa, .inl (k.1, n, .inl f))]) (va_runV (As := [.int x, .int x2]) (rest := []) ⟨hx, hb, hml, hown, hts⟩ (c_CWr_addLikely l hl9 D k h0 qc qf qg H.size qs lo x3 rm sf lf x x2 ) (cwV 2 hts (gV mw_118 mw_119 mw_120 mw_95 mw_121) rfl rfl rfl (by decide +kernel) ⟨(Nat.le_of_ble_eq_true rfl), (Nat.le_of_ble_eq_true rfl)⟩) (kRecv (q := (R_CWr, T_CWr, 5)) (q0 := 0) (ci := 4) hK hP rfl rfl (kPre (wc := [(h0, .inr (4, [.ref qs, .ref qc, .int lo, .int x3, .int rm])), (qc, .inr (1, [.ref qf, .ref qg])), (qf, .inl (k.1, 19, .inl sf)), (qg, .inl (k.1, 19, .inl lf))]) hE hK hP hD hS hA [0, 4, 5, 6] rfl (by decide))) rfl rfl hl.1 rfl (lv_room (Nat.le_of_ble_eq_true rfl)) d_CWr_add_34 ⟨(Nat.le_of_ble_eq_true rfl), (Nat.le_of_ble_eq_true rfl)⟩) hP hD hS hA [0, 4, 5, 6] [1, 2, 3] rfl rfl (by decide) (by decide) (fun zz uu H locs hw29 hz30 hP hD hS => ?_)
    obtain ⟨lo_24, sz_25, sf_26, lf_27⟩ := uu
    have hw29 : lo_24 = (aLk lo x3 sf lf x x2).1 ∧ sz_25 = (aLk lo x3 sf lf x x2).2.1 ∧ sf_26 = (aLk lo x3 sf lf x x2).2.2.1 ∧ lf_27 = (aLk lo x3 sf lf x x2).2.2.2 := hw29
    have hP : va_P D vwCl [(qs, .inr (2, [.ref qr, .int a])), (qr, .inr (0, [.ref qa, .int u])), (qa, .inl (k.1, n, .inl f)), (h0, .inr (4, [.ref qs, .ref qc, .int lo_24, .int sz_25, .int rm])), (qc, .inr (1, [.ref qf, .ref qg])), (qf, .inl (k.1, 19, .inl sf_26)), (qg, .inl (k.1, 19, .inl lf_27))] H := hP
    have hD : va_D A [(qs, .inr (2, [.ref qr, .int a])), (qr, .inr (0, [.ref qa, .int u])), (qa, .inl (k.1, n, .inl f)), (h0, .inr (4, [.ref qs, .ref qc, .int lo_24, .int sz_25, .int rm])), (qc, .inr (1, [.ref qf, .ref qg])), (qf, .inl (k.1, 19, .inl sf_26)), (qg, .inl (k.1, 19, .inl lf_27))] := hD
    refine lv_goto (tgt := 46) hx hb d_CWr_add_37 (by decide) ?_
    refine lv_aload_n hx hb d_CWr_add_46 rfl (lv_at hl 1 rfl) ?_
    have hbn : (wad a lo sz rm sf lf n L x bit).2.2.2.2.2.1 = (enl 15 a lo_24 sz_25 rm n L).2.2.2.1 := (by obtain ⟨rfl, rfl, rfl, rfl⟩ := hw29; subst ex3; subst ex2; simp [wad, wa0, c5])
    refine kcv (wc := [(h0, .inr (4, [.ref qs, .ref qc, .int lo_24, .int sz_25, .int rm])), (qs, .inr (2, [.ref qr, .int a])), (qr, .inr (0, [.ref qa, .int u])), (qa, .inl (k.1, n, .inl f))]) (wr := [(qc, .inr (1, [.ref qf, .ref qg])), (qf, .inl (k.1, 19, .inl sf_26)), (qg, .inl (k.1, 19, .inl lf_27))]) (va_runV (As := []) (rest := []) ⟨hx, hb, hml, hown, hts⟩ (c_CWr_enlarge l hl9 D k h0 qs qr qa H.size qc lo_24 sz_25 rm a n f u L (by assumption)) (cwV 0 hts (gV mw_114 mw_115 mw_116 mw_95 mw_117) rfl rfl rfl (by decide +kernel) ⟨(Nat.le_of_ble_eq_true rfl), (Nat.le_of_ble_eq_true rfl)⟩) (kRecv (q := (R_CWr, T_CWr, 5)) (q0 := 3) (ci := 4) hK hP rfl rfl (kPre (wc := [(h0, .inr (4, [.ref qs, .ref qc, .int lo_24, .int sz_25, .int rm])), (qs, .inr (2, [.ref qr, .int a])), (qr, .inr (0, [.ref qa, .int u])), (qa, .inl (k.1, n, .inl f))]) hE hK hP hD hS hA [3, 0, 1, 2] rfl (by decide))) rfl rfl hl.1 rfl (lv_room (Nat.le_of_ble_eq_true rfl)) d_CWr_add_47 ⟨(by first | omega | (dsimp only; omega)), (by first | omega | (dsimp only; omega))⟩) hP hD hS hA [3, 0, 1, 2] [4, 5, 6] rfl rfl (by decide) (by decide) (fun zz uu H locs hw40 hz41 hP hD hS => ?_)
    obtain ⟨q_36, f_37, u_38⟩ := zz
    obtain ⟨lo_31, sz_32, rm_33, n_34, L_35⟩ := uu
    have hw40 : lo_31 = (enl 15 a lo_24 sz_25 rm n L).1 ∧ sz_32 = (enl 15 a lo_24 sz_25 rm n L).2.1 ∧ rm_33 = (enl 15 a lo_24 sz_25 rm n L).2.2.1 ∧ n_34 = (enl 15 a lo_24 sz_25 rm n L).2.2.2.1 ∧ L_35 = (enl 15 a lo_24 sz_25 rm n L).2.2.2.2 := hw40
    have hz41 : row_ok n_34 f_37 u_38 L_35 := hz41
    have hP : va_P D vwCl [(qc, .inr (1, [.ref qf, .ref qg])), (qf, .inl (k.1, 19, .inl sf_26)), (qg, .inl (k.1, 19, .inl lf_27)), (h0, .inr (4, [.ref qs, .ref qc, .int lo_31, .int sz_32, .int rm_33])), (qs, .inr (2, [.ref qr, .int a])), (qr, .inr (0, [.ref q_36, .int u_38])), (q_36, .inl (k.1, n_34, .inl f_37))] H := hP
    have hD : va_D A [(qc, .inr (1, [.ref qf, .ref qg])), (qf, .inl (k.1, 19, .inl sf_26)), (qg, .inl (k.1, 19, .inl lf_27)), (h0, .inr (4, [.ref qs, .ref qc, .int lo_31, .int sz_32, .int rm_33])), (qs, .inr (2, [.ref qr, .int a])), (qr, .inr (0, [.ref q_36, .int u_38])), (q_36, .inl (k.1, n_34, .inl f_37))] := hD
    exact krv (wo := wo_CWr_add k h0 qs qr qa qc qf qg lo sz rm sf lf a n f u L x bit) hx hb hr hlk hP hD hS (lo_31, sz_32, rm_33, sf_26, lf_27, n_34, L_35) (q_36, f_37, u_38) (by obtain ⟨rfl, rfl, rfl, rfl, rfl⟩ := hw40; obtain ⟨rfl, rfl, rfl, rfl⟩ := hw29; subst ex3; subst ex2; simp [po_CWr_add, wad, wa0, c5]) (by assumption) [3, 4, 5, 6, 0, 1, 2] rfl (by decide) (by first | omega | (dsimp only; omega)) (by first | omega | (dsimp only; omega)) d_CWr_add_50

def wo_CWr_end0 (k : gK) (h0 qs qr qa : Nat) (qc : Nat) (lo : Int32) (sz : Int32) (rm : Int32) (a : Int32) (n : Nat) (f : Nat → Int32) (u : Int32) (L : List Int32) (zz : Nat × (Nat → Int32) × Int32) (uu : Int32 × Int32 × Nat × List Int32) : va_W := match zz, uu with
  | (q2, f2, u2), (lo2, rm2, n2, L2) => [(h0, .inr (4, [.ref qs, .ref qc, .int lo2, .int sz, .int rm2])), (qs, .inr (2, [.ref qr, .int a])), (qr, .inr (0, [.ref q2, .int u2])), (q2, .inl (k.1, n2, .inl f2))]
def ex_CWr_end0 (k : gK) (h0 qs qr qa : Nat) (qc : Nat) (lo : Int32) (sz : Int32) (rm : Int32) (a : Int32) (n : Nat) (f : Nat → Int32) (u : Int32) (L : List Int32) (zz : Nat × (Nat → Int32) × Int32) (uu : Int32 × Int32 × Nat × List Int32) : Prop := match zz, uu with
  | (q2, f2, u2), (lo2, rm2, n2, L2) => row_ok n2 f2 u2 L2
def po_CWr_end0 (k : gK) (h0 qs qr qa : Nat) (qc : Nat) (lo : Int32) (sz : Int32) (rm : Int32) (a : Int32) (n : Nat) (f : Nat → Int32) (u : Int32) (L : List Int32) (uu : Int32 × Int32 × Nat × List Int32) : Prop := match uu with
  | (lo2, rm2, n2, L2) => lo2 = (ew0 a lo sz rm n L).1 ∧ rm2 = (ew0 a lo sz rm n L).2.1 ∧ n2 = (ew0 a lo sz rm n L).2.2.1 ∧ L2 = (ew0 a lo sz rm n L).2.2.2
def qc_CWr_end0 (D : va_G) (k : gK) (h0 qs qr qa : Nat) (qc : Nat) (lo : Int32) (sz : Int32) (rm : Int32) (a : Int32) (n : Nat) (f : Nat → Int32) (u : Int32) (L : List Int32) (A : Nat → Prop) : Array Value → State → Outcome → State → Prop := va_Qv (po_CWr_end0 k h0 qs qr qa qc lo sz rm a n f u L) (fun uu t => ∃ zz, ex_CWr_end0 k h0 qs qr qa qc lo sz rm a n f u L zz uu ∧ GP D A (wo_CWr_end0 k h0 qs qr qa qc lo sz rm a n f u L zz uu) t) A
set_option maxHeartbeats 1000000 in
set_option maxRecDepth 100000 in
theorem c_CWr_end0 (l : Launch) (hl9 : l.stackTraces = false) (D : va_G) (k : gK) (h0 qs qr qa : Nat) (zsz : Nat) (qc : Nat) (lo : Int32) (sz : Int32) (rm : Int32) (a : Int32) (n : Nat) (f : Nat → Int32) (u : Int32) (L : List Int32) (hR : row_ok n f u L) : Met l y_CWr_endInWay0 (.code y_CWr_endInWay0 b_CWr_endInWay0 2 none :: AW) ({ frames := 6, cells := (ew0 a lo sz rm n L).2.2.1 - n, slots := 2 * ((ew0 a lo sz rm n L).2.2.1 - n), locals := 166 }) (va_Pc [.ref h0] (GG D k [(h0, .inr (4, [.ref qs, .ref qc, .int lo, .int sz, .int rm])), (qs, .inr (2, [.ref qr, .int a])), (qr, .inr (0, [.ref qa, .int u])), (qa, .inl (k.1, n, .inl f))] zsz)) (qc_CWr_end0 D k h0 qs qr qa qc lo sz rm a n f u L (va_A [(h0, .inr (4, [.ref qs, .ref qc, .int lo, .int sz, .int rm])), (qs, .inr (2, [.ref qr, .int a])), (qr, .inr (0, [.ref qa, .int u])), (qa, .inl (k.1, n, .inl f))] zsz)) ((ew0 a lo sz rm n L).2.2.1 - n) (2 * ((ew0 a lo sz rm n L).2.2.1 - n)) (va_A [(h0, .inr (4, [.ref qs, .ref qc, .int lo, .int sz, .int rm])), (qs, .inr (2, [.ref qr, .int a])), (qr, .inr (0, [.ref qa, .int u])), (qa, .inl (k.1, n, .inl f))] zsz) := by
  refine kMet (ws := [(h0, .inr (4, [.ref qs, .ref qc, .int lo, .int sz, .int rm])), (qs, .inr (2, [.ref qr, .int a])), (qr, .inr (0, [.ref qa, .int u])), (qa, .inl (k.1, n, .inl f))]) (Qc := qc_CWr_end0 D k h0 qs qr qa qc lo sz rm a n f u L) (by decide) (Nat.le_of_ble_eq_true rfl) (fun p e s m below meth c ls A H Cc hP hD hA hS hl => ?_)
  obtain ⟨hx, hb, hml, hr, hlk, hown, hts, hK, hE, hin⟩ := Cc
  have hl : lv_has ls 2 [(0, .ref h0)] := hl
  refine lv_aload_n hx hb d_CWr_endInWay0_0 rfl (lv_at hl 0 rfl) ?_
  refine va_get (D := D) (ci := 4) (v := .int lo) (C := R_CWr) (T := T_CWr) (N := 5) hx hb hts inw_CWr hown hK hP 0 rfl rfl 2 (by decide) (hts (.fieldLink R_CWr 19 "LikelyBits$CodedWriter" "low" "I") mw_78) (fun _ h9 => h9) rfl d_CWr_endInWay0_1 ?_
  refine lv_ldc (v := 65535) hx hb hown (hts (.constant R_CWr 72 65535) mw_122) d_CWr_endInWay0_4 ?_
  refine lv_ior hx hb d_CWr_endInWay0_6 ?_
  refine lv_topi (fun x1 ex1 => ?_)
  refine lv_istore_n (lv' := [(1, .int x1), (0, .ref h0)]) hx hb d_CWr_endInWay0_7 rfl hl (by decide) rfl (fun ls hl => ?_)
  refine lv_aload_n hx hb d_CWr_endInWay0_8 rfl (lv_at hl 1 rfl) ?_
  refine lv_iload_n hx hb d_CWr_endInWay0_9 rfl (lv_at hl 0 rfl) ?_
  refine lv_aload_n hx hb d_CWr_endInWay0_10 rfl (lv_at hl 1 rfl) ?_
  refine va_get (D := D) (ci := 4) (v := .int lo) (C := R_CWr) (T := T_CWr) (N := 5) hx hb hts inw_CWr hown hK hP 0 rfl rfl 2 (by decide) (hts (.fieldLink R_CWr 19 "LikelyBits$CodedWriter" "low" "I") mw_78) (fun _ h9 => h9) rfl d_CWr_endInWay0_11 ?_
  refine lv_aload_n hx hb d_CWr_endInWay0_14 rfl (lv_at hl 1 rfl) ?_
  refine va_get (D := D) (ci := 4) (v := .int sz) (C := R_CWr) (T := T_CWr) (N := 5) hx hb hts inw_CWr hown hK hP 0 rfl rfl 3 (by decide) (hts (.fieldLink R_CWr 24 "LikelyBits$CodedWriter" "size" "I") mw_80) (fun _ h9 => h9) rfl d_CWr_endInWay0_15 ?_
  refine lv_iadd hx hb d_CWr_endInWay0_18 ?_
  refine lv_icmp_ge (tgt := 26) hx hb d_CWr_endInWay0_19 (by decide) (fun c2 => ?_) (fun c2 => ?_)
  · refine lv_iload_n hx hb d_CWr_endInWay0_26 rfl (lv_at hl 0 rfl) ?_
    refine lv_ldc (v := 32768) hx hb hown (hts (.constant R_CWr 23 32768) mw_79) d_CWr_endInWay0_27 ?_
    refine lv_isub hx hb d_CWr_endInWay0_29 ?_
    refine lv_topi (fun x3 ex3 => ?_)
    refine va_put (D := D) (ci := 4) (v := .int x3) (ty := .int) (C := R_CWr) (T := T_CWr) (N := 5) hx hb hts inw_CWr ty_CWr tyok_CWr nm_CWr hown hK hP hD hS 0 rfl rfl 2 (by decide) (hts (.fieldLink R_CWr 19 "LikelyBits$CodedWriter" "low" "I") mw_78) (fun _ h9 => h9) rfl (by decide +kernel) rfl rfl (Nat.le_of_ble_eq_true rfl) d_CWr_endInWay0_30 (fun H locs hP hD hS => ?_)
    have hP : va_P D vwCl [(h0, .inr (4, [.ref qs, .ref qc, .int x3, .int sz, .int rm])), (qs, .inr (2, [.ref qr, .int a])), (qr, .inr (0, [.ref qa, .int u])), (qa, .inl (k.1, n, .inl f))] H := hP
    have hD : va_D A [(h0, .inr (4, [.ref qs, .ref qc, .int x3, .int sz, .int rm])), (qs, .inr (2, [.ref qr, .int a])), (qr, .inr (0, [.ref qa, .int u])), (qa, .inl (k.1, n, .inl f))] := hD
    refine lv_aload_n hx hb d_CWr_endInWay0_33 rfl (lv_at hl 1 rfl) ?_
    have hq1 : (ew0 a lo sz rm n L).2.2.1 = (fb a (fb a x3 rm n L).1 (fb a x3 rm n L).2.1 (fb a x3 rm n L).2.2.1 (fb a x3 rm n L).2.2.2).2.2.1 := (by subst ex3; subst ex1; simp [ew0, ew0l, c2])
    have hb1 := fb_le a x3 rm n L
    have hb2 : (fb a x3 rm n L).2.2.1 ≤ (ew0 a lo sz rm n L).2.2.1 := by rw [hq1]; exact fb_le _ _ _ _ _
    refine kcv (wc := [(h0, .inr (4, [.ref qs, .ref qc, .int x3, .int sz, .int rm])), (qs, .inr (2, [.ref qr, .int a])), (qr, .inr (0, [.ref qa, .int u])), (qa, .inl (k.1, n, .inl f))]) (wr := []) (va_runV (As := []) (rest := []) ⟨hx, hb, hml, hown, hts⟩ (c_CWr_fill l hl9 D k h0 qs qr qa H.size qc x3 sz rm a n f u L (by assumption)) (cwV 0 hts (gV mw_123 mw_124 mw_125 mw_95 mw_126) rfl rfl rfl (by decide +kernel) ⟨(Nat.le_of_ble_eq_true rfl), (Nat.le_of_ble_eq_true rfl)⟩) (kRecv (q := (R_CWr, T_CWr, 5)) (q0 := 0) (ci := 4) hK hP rfl rfl (kPre (wc := [(h0, .inr (4, [.ref qs, .ref qc, .int x3, .int sz, .int rm])), (qs, .inr (2, [.ref qr, .int a])), (qr, .inr (0, [.ref qa, .int u])), (qa, .inl (k.1, n, .inl f))]) hE hK hP hD hS hA [0, 1, 2, 3] rfl (by decide))) rfl rfl hl.1 rfl (lv_room (Nat.le_of_ble_eq_true rfl)) d_CWr_endInWay0_34 ⟨(by first | omega | (dsimp only; omega)), (by first | omega | (dsimp only; omega))⟩) hP hD hS hA [0, 1, 2, 3] [] rfl rfl (by decide) (by decide) (fun zz uu H locs hw12 hz13 hP hD hS => ?_)
    obtain ⟨q_8, f_9, u_10⟩ := zz
    obtain ⟨lo_4, rm_5, n_6, L_7⟩ := uu
    have hw12 : lo_4 = (fb a x3 rm n L).1 ∧ rm_5 = (fb a x3 rm n L).2.1 ∧ n_6 = (fb a x3 rm n L).2.2.1 ∧ L_7 = (fb a x3 rm n L).2.2.2 := hw12
    have hz13 : row_ok n_6 f_9 u_10 L_7 := hz13
    have hP : va_P D vwCl [(h0, .inr (4, [.ref qs, .ref qc, .int lo_4, .int sz, .int rm_5])), (qs, .inr (2, [.ref qr, .int a])), (qr, .inr (0, [.ref q_8, .int u_10])), (q_8, .inl (k.1, n_6, .inl f_9))] H := hP
    have hD : va_D A [(h0, .inr (4, [.ref qs, .ref qc, .int lo_4, .int sz, .int rm_5])), (qs, .inr (2, [.ref qr, .int a])), (qr, .inr (0, [.ref q_8, .int u_10])), (q_8, .inl (k.1, n_6, .inl f_9))] := hD
    refine lv_aload_n hx hb d_CWr_endInWay0_37 rfl (lv_at hl 1 rfl) ?_
    have hq2 : (ew0 a lo sz rm n L).2.2.1 = (fb a lo_4 rm_5 n_6 L_7).2.2.1 := (by rw [hq1, hw12.1, hw12.2.1, hw12.2.2.1, hw12.2.2.2])
    have hb3 := fb_le a lo_4 rm_5 n_6 L_7
    have hb4 := hw12.2.2.1
    refine kcv (wc := [(h0, .inr (4, [.ref qs, .ref qc, .int lo_4, .int sz, .int rm_5])), (qs, .inr (2, [.ref qr, .int a])), (qr, .inr (0, [.ref q_8, .int u_10])), (q_8, .inl (k.1, n_6, .inl f_9))]) (wr := []) (va_runV (As := []) (rest := []) ⟨hx, hb, hml, hown, hts⟩ (c_CWr_fill l hl9 D k h0 qs qr q_8 H.size qc lo_4 sz rm_5 a n_6 f_9 u_10 L_7 (by assumption)) (cwV 0 hts (gV mw_123 mw_124 mw_125 mw_95 mw_126) rfl rfl rfl (by decide +kernel) ⟨(Nat.le_of_ble_eq_true rfl), (Nat.le_of_ble_eq_true rfl)⟩) (kRecv (q := (R_CWr, T_CWr, 5)) (q0 := 0) (ci := 4) hK hP rfl rfl (kPre (wc := [(h0, .inr (4, [.ref qs, .ref qc, .int lo_4, .int sz, .int rm_5])), (qs, .inr (2, [.ref qr, .int a])), (qr, .inr (0, [.ref q_8, .int u_10])), (q_8, .inl (k.1, n_6, .inl f_9))]) hE hK hP hD hS hA [0, 1, 2, 3] rfl (by decide))) rfl rfl hl.1 rfl (lv_room (Nat.le_of_ble_eq_true rfl)) d_CWr_endInWay0_38 ⟨(by first | omega | (dsimp only; omega)), (by first | omega | (dsimp only; omega))⟩) hP hD hS hA [0, 1, 2, 3] [] rfl rfl (by decide) (by decide) (fun zz uu H locs hw22 hz23 hP hD hS => ?_)
    obtain ⟨q_18, f_19, u_20⟩ := zz
    obtain ⟨lo_14, rm_15, n_16, L_17⟩ := uu
    have hw22 : lo_14 = (fb a lo_4 rm_5 n_6 L_7).1 ∧ rm_15 = (fb a lo_4 rm_5 n_6 L_7).2.1 ∧ n_16 = (fb a lo_4 rm_5 n_6 L_7).2.2.1 ∧ L_17 = (fb a lo_4 rm_5 n_6 L_7).2.2.2 := hw22
    have hz23 : row_ok n_16 f_19 u_20 L_17 := hz23
    have hP : va_P D vwCl [(h0, .inr (4, [.ref qs, .ref qc, .int lo_14, .int sz, .int rm_15])), (qs, .inr (2, [.ref qr, .int a])), (qr, .inr (0, [.ref q_18, .int u_20])), (q_18, .inl (k.1, n_16, .inl f_19))] H := hP
    have hD : va_D A [(h0, .inr (4, [.ref qs, .ref qc, .int lo_14, .int sz, .int rm_15])), (qs, .inr (2, [.ref qr, .int a])), (qr, .inr (0, [.ref q_18, .int u_20])), (q_18, .inl (k.1, n_16, .inl f_19))] := hD
    exact krv (wo := wo_CWr_end0 k h0 qs qr qa qc lo sz rm a n f u L) hx hb hr hlk hP hD hS (lo_14, rm_15, n_16, L_17) (q_18, f_19, u_20) (by obtain ⟨rfl, rfl, rfl, rfl⟩ := hw22; obtain ⟨rfl, rfl, rfl, rfl⟩ := hw12; subst ex3; subst ex1; simp [po_CWr_end0, ew0, ew0l, c2]) (by assumption) [0, 1, 2, 3] rfl (by decide) (by first | omega | (dsimp only; omega)) (by first | omega | (dsimp only; omega)) d_CWr_endInWay0_41
  · refine lv_iload_n hx hb d_CWr_endInWay0_22 rfl (lv_at hl 0 rfl) ?_
    refine lv_goto (tgt := 30) hx hb d_CWr_endInWay0_23 (by decide) ?_
    refine va_put (D := D) (ci := 4) (v := .int x1) (ty := .int) (C := R_CWr) (T := T_CWr) (N := 5) hx hb hts inw_CWr ty_CWr tyok_CWr nm_CWr hown hK hP hD hS 0 rfl rfl 2 (by decide) (hts (.fieldLink R_CWr 19 "LikelyBits$CodedWriter" "low" "I") mw_78) (fun _ h9 => h9) rfl (by decide +kernel) rfl rfl (Nat.le_of_ble_eq_true rfl) d_CWr_endInWay0_30 (fun H locs hP hD hS => ?_)
    have hP : va_P D vwCl [(h0, .inr (4, [.ref qs, .ref qc, .int x1, .int sz, .int rm])), (qs, .inr (2, [.ref qr, .int a])), (qr, .inr (0, [.ref qa, .int u])), (qa, .inl (k.1, n, .inl f))] H := hP
    have hD : va_D A [(h0, .inr (4, [.ref qs, .ref qc, .int x1, .int sz, .int rm])), (qs, .inr (2, [.ref qr, .int a])), (qr, .inr (0, [.ref qa, .int u])), (qa, .inl (k.1, n, .inl f))] := hD
    refine lv_aload_n hx hb d_CWr_endInWay0_33 rfl (lv_at hl 1 rfl) ?_
    have hq1 : (ew0 a lo sz rm n L).2.2.1 = (fb a (fb a x1 rm n L).1 (fb a x1 rm n L).2.1 (fb a x1 rm n L).2.2.1 (fb a x1 rm n L).2.2.2).2.2.1 := (by subst ex1; simp [ew0, ew0l, c2])
    have hb1 := fb_le a x1 rm n L
    have hb2 : (fb a x1 rm n L).2.2.1 ≤ (ew0 a lo sz rm n L).2.2.1 := by rw [hq1]; exact fb_le _ _ _ _ _
    refine kcv (wc := [(h0, .inr (4, [.ref qs, .ref qc, .int x1, .int sz, .int rm])), (qs, .inr (2, [.ref qr, .int a])), (qr, .inr (0, [.ref qa, .int u])), (qa, .inl (k.1, n, .inl f))]) (wr := []) (va_runV (As := []) (rest := []) ⟨hx, hb, hml, hown, hts⟩ (c_CWr_fill l hl9 D k h0 qs qr qa H.size qc x1 sz rm a n f u L (by assumption)) (cwV 0 hts (gV mw_123 mw_124 mw_125 mw_95 mw_126) rfl rfl rfl (by decide +kernel) ⟨(Nat.le_of_ble_eq_true rfl), (Nat.le_of_ble_eq_true rfl)⟩) (kRecv (q := (R_CWr, T_CWr, 5)) (q0 := 0) (ci := 4) hK hP rfl rfl (kPre (wc := [(h0, .inr (4, [.ref qs, .ref qc, .int x1, .int sz, .int rm])), (qs, .inr (2, [.ref qr, .int a])), (qr, .inr (0, [.ref qa, .int u])), (qa, .inl (k.1, n, .inl f))]) hE hK hP hD hS hA [0, 1, 2, 3] rfl (by decide))) rfl rfl hl.1 rfl (lv_room (Nat.le_of_ble_eq_true rfl)) d_CWr_endInWay0_34 ⟨(by first | omega | (dsimp only; omega)), (by first | omega | (dsimp only; omega))⟩) hP hD hS hA [0, 1, 2, 3] [] rfl rfl (by decide) (by decide) (fun zz uu H locs hw32 hz33 hP hD hS => ?_)
    obtain ⟨q_28, f_29, u_30⟩ := zz
    obtain ⟨lo_24, rm_25, n_26, L_27⟩ := uu
    have hw32 : lo_24 = (fb a x1 rm n L).1 ∧ rm_25 = (fb a x1 rm n L).2.1 ∧ n_26 = (fb a x1 rm n L).2.2.1 ∧ L_27 = (fb a x1 rm n L).2.2.2 := hw32
    have hz33 : row_ok n_26 f_29 u_30 L_27 := hz33
    have hP : va_P D vwCl [(h0, .inr (4, [.ref qs, .ref qc, .int lo_24, .int sz, .int rm_25])), (qs, .inr (2, [.ref qr, .int a])), (qr, .inr (0, [.ref q_28, .int u_30])), (q_28, .inl (k.1, n_26, .inl f_29))] H := hP
    have hD : va_D A [(h0, .inr (4, [.ref qs, .ref qc, .int lo_24, .int sz, .int rm_25])), (qs, .inr (2, [.ref qr, .int a])), (qr, .inr (0, [.ref q_28, .int u_30])), (q_28, .inl (k.1, n_26, .inl f_29))] := hD
    refine lv_aload_n hx hb d_CWr_endInWay0_37 rfl (lv_at hl 1 rfl) ?_
    have hq2 : (ew0 a lo sz rm n L).2.2.1 = (fb a lo_24 rm_25 n_26 L_27).2.2.1 := (by rw [hq1, hw32.1, hw32.2.1, hw32.2.2.1, hw32.2.2.2])
    have hb3 := fb_le a lo_24 rm_25 n_26 L_27
    have hb4 := hw32.2.2.1
    refine kcv (wc := [(h0, .inr (4, [.ref qs, .ref qc, .int lo_24, .int sz, .int rm_25])), (qs, .inr (2, [.ref qr, .int a])), (qr, .inr (0, [.ref q_28, .int u_30])), (q_28, .inl (k.1, n_26, .inl f_29))]) (wr := []) (va_runV (As := []) (rest := []) ⟨hx, hb, hml, hown, hts⟩ (c_CWr_fill l hl9 D k h0 qs qr q_28 H.size qc lo_24 sz rm_25 a n_26 f_29 u_30 L_27 (by assumption)) (cwV 0 hts (gV mw_123 mw_124 mw_125 mw_95 mw_126) rfl rfl rfl (by decide +kernel) ⟨(Nat.le_of_ble_eq_true rfl), (Nat.le_of_ble_eq_true rfl)⟩) (kRecv (q := (R_CWr, T_CWr, 5)) (q0 := 0) (ci := 4) hK hP rfl rfl (kPre (wc := [(h0, .inr (4, [.ref qs, .ref qc, .int lo_24, .int sz, .int rm_25])), (qs, .inr (2, [.ref qr, .int a])), (qr, .inr (0, [.ref q_28, .int u_30])), (q_28, .inl (k.1, n_26, .inl f_29))]) hE hK hP hD hS hA [0, 1, 2, 3] rfl (by decide))) rfl rfl hl.1 rfl (lv_room (Nat.le_of_ble_eq_true rfl)) d_CWr_endInWay0_38 ⟨(by first | omega | (dsimp only; omega)), (by first | omega | (dsimp only; omega))⟩) hP hD hS hA [0, 1, 2, 3] [] rfl rfl (by decide) (by decide) (fun zz uu H locs hw42 hz43 hP hD hS => ?_)
    obtain ⟨q_38, f_39, u_40⟩ := zz
    obtain ⟨lo_34, rm_35, n_36, L_37⟩ := uu
    have hw42 : lo_34 = (fb a lo_24 rm_25 n_26 L_27).1 ∧ rm_35 = (fb a lo_24 rm_25 n_26 L_27).2.1 ∧ n_36 = (fb a lo_24 rm_25 n_26 L_27).2.2.1 ∧ L_37 = (fb a lo_24 rm_25 n_26 L_27).2.2.2 := hw42
    have hz43 : row_ok n_36 f_39 u_40 L_37 := hz43
    have hP : va_P D vwCl [(h0, .inr (4, [.ref qs, .ref qc, .int lo_34, .int sz, .int rm_35])), (qs, .inr (2, [.ref qr, .int a])), (qr, .inr (0, [.ref q_38, .int u_40])), (q_38, .inl (k.1, n_36, .inl f_39))] H := hP
    have hD : va_D A [(h0, .inr (4, [.ref qs, .ref qc, .int lo_34, .int sz, .int rm_35])), (qs, .inr (2, [.ref qr, .int a])), (qr, .inr (0, [.ref q_38, .int u_40])), (q_38, .inl (k.1, n_36, .inl f_39))] := hD
    exact krv (wo := wo_CWr_end0 k h0 qs qr qa qc lo sz rm a n f u L) hx hb hr hlk hP hD hS (lo_34, rm_35, n_36, L_37) (q_38, f_39, u_40) (by obtain ⟨rfl, rfl, rfl, rfl⟩ := hw42; obtain ⟨rfl, rfl, rfl, rfl⟩ := hw32; subst ex1; simp [po_CWr_end0, ew0, ew0l, c2]) (by assumption) [0, 1, 2, 3] rfl (by decide) (by first | omega | (dsimp only; omega)) (by first | omega | (dsimp only; omega)) d_CWr_endInWay0_41

def wo_CWr_end1 (k : gK) (h0 qs qr qa : Nat) (qc : Nat) (lo : Int32) (sz : Int32) (rm : Int32) (a : Int32) (n : Nat) (f : Nat → Int32) (u : Int32) (L : List Int32) (zz : Nat × (Nat → Int32) × Int32) (uu : Int32 × Int32 × Nat × List Int32) : va_W := match zz, uu with
  | (q2, f2, u2), (lo2, rm2, n2, L2) => [(h0, .inr (4, [.ref qs, .ref qc, .int lo2, .int sz, .int rm2])), (qs, .inr (2, [.ref qr, .int a])), (qr, .inr (0, [.ref q2, .int u2])), (q2, .inl (k.1, n2, .inl f2))]
def ex_CWr_end1 (k : gK) (h0 qs qr qa : Nat) (qc : Nat) (lo : Int32) (sz : Int32) (rm : Int32) (a : Int32) (n : Nat) (f : Nat → Int32) (u : Int32) (L : List Int32) (zz : Nat × (Nat → Int32) × Int32) (uu : Int32 × Int32 × Nat × List Int32) : Prop := match zz, uu with
  | (q2, f2, u2), (lo2, rm2, n2, L2) => row_ok n2 f2 u2 L2
def po_CWr_end1 (k : gK) (h0 qs qr qa : Nat) (qc : Nat) (lo : Int32) (sz : Int32) (rm : Int32) (a : Int32) (n : Nat) (f : Nat → Int32) (u : Int32) (L : List Int32) (uu : Int32 × Int32 × Nat × List Int32) : Prop := match uu with
  | (lo2, rm2, n2, L2) => lo2 = (ew1 12 a (12 - rm) lo rm n L).1 ∧ rm2 = (ew1 12 a (12 - rm) lo rm n L).2.1 ∧ n2 = (ew1 12 a (12 - rm) lo rm n L).2.2.1 ∧ L2 = (ew1 12 a (12 - rm) lo rm n L).2.2.2
def qc_CWr_end1 (D : va_G) (k : gK) (h0 qs qr qa : Nat) (qc : Nat) (lo : Int32) (sz : Int32) (rm : Int32) (a : Int32) (n : Nat) (f : Nat → Int32) (u : Int32) (L : List Int32) (A : Nat → Prop) : Array Value → State → Outcome → State → Prop := va_Qv (po_CWr_end1 k h0 qs qr qa qc lo sz rm a n f u L) (fun uu t => ∃ zz, ex_CWr_end1 k h0 qs qr qa qc lo sz rm a n f u L zz uu ∧ GP D A (wo_CWr_end1 k h0 qs qr qa qc lo sz rm a n f u L zz uu) t) A
set_option maxHeartbeats 1000000 in
set_option maxRecDepth 100000 in
theorem lp_CWr_end1_10 (l : Launch) (hl9 : l.stackTraces = false) (D : va_G) (k : gK) (h0 qs qr qa : Nat) (qc : Nat) (lo : Int32) (sz : Int32) (rm : Int32) (a : Int32) (n : Nat) (f : Nat → Int32) (u : Int32) (L : List Int32) {p : Program} {e : Env} {s : State} {m : MethodId} {below : List Frame} {meth : Method} {c : Code} {A : Nat → Prop} (Cc : Cx p s m ([.ref h0] : List Value).toArray meth c b_CWr_endInWay1 3 none y_CWr_endInWay1.cls y_CWr_endInWay1.name D k A) (hA : ∀ q : Nat, s.heap.size ≤ q → A q) :
    ∀ (t : Nat) (y1 : Int32) (i1 : Int32) (lo1 : Int32) (rm1 : Int32) (qa1 : Nat) (n1 : Nat) (f1 : Nat → Int32) (u1 : Int32) (L1 : List Int32), (row_ok n1 f1 u1 L1) → (ew1 12 a (12 - rm) lo rm n L = ew1 t a y1 lo1 rm1 n1 L1) → (i1 = nI (12 - t)) → (t ≤ 12) → ∀ (H : Heap) (locs : List Loc) (cells slots : Nat), cells ≤ n1 - n ∧ slots ≤ 2 * (n1 - n) ∧ n ≤ n1 → va_P D vwCl [(h0, .inr (4, [.ref qs, .ref qc, .int lo1, .int sz, .int rm1])), (qs, .inr (2, [.ref qr, .int a])), (qr, .inr (0, [.ref qa1, .int u1])), (qa1, .inl (k.1, n1, .inl f1))] H → va_D A [(h0, .inr (4, [.ref qs, .ref qc, .int lo1, .int sz, .int rm1])), (qs, .inr (2, [.ref qr, .int a])), (qr, .inr (0, [.ref qa1, .int u1])), (qa1, .inl (k.1, n1, .inl f1))] → va_S A s.heap H locs → ∀ ls : Array Slot, lv_has ls 3 [(2, .int i1), (1, .int y1), (0, .ref h0)] → W p l e ({ frames := 6, cells := (ew1 12 a (12 - rm) lo rm n L).2.2.1 - n, slots := 2 * ((ew1 12 a (12 - rm) lo rm n L).2.2.1 - n), locals := 166 }) s m ([.ref h0] : List Value).toArray below meth c H locs cells slots (MQ below (qc_CWr_end1 D k h0 qs qr qa qc lo sz rm a n f u L A) ([.ref h0] : List Value).toArray s ((ew1 12 a (12 - rm) lo rm n L).2.2.1 - n) (2 * ((ew1 12 a (12 - rm) lo rm n L).2.2.1 - n)) A) (F0 m 10 ls []) := by
  have Cc9 := Cc
  obtain ⟨hx, hb, hml, hr, hlk, hown, hts, hK, hE, hin⟩ := Cc
  intro t
  induction t with
  | zero =>
    intro y1 i1 lo1 rm1 qa1 n1 f1 u1 L1 hR1 hF hi ht H locs cells slots hrm hP hD hS ls hl
    refine lv_iload_n hx hb d_CWr_endInWay1_10 rfl (lv_at hl 0 rfl) ?_
    refine lv_bipush (v := 12) hx hb d_CWr_endInWay1_11 (by decide) ?_
    refine lv_icmp_ge (tgt := 37) hx hb d_CWr_endInWay1_13 (by decide) (fun c1 => ?_) (fun c1 => ?_)
    · exact krv (wo := wo_CWr_end1 k h0 qs qr qa qc lo sz rm a n f u L) hx hb hr hlk hP hD hS (lo1, rm1, n1, L1) (qa1, f1, u1) (by simp only [po_CWr_end1]; rw [hF]; simp [ew1]) hR1 [0, 1, 2, 3] rfl (by decide) (by rw [hF]; simp only [ew1]; omega) (by rw [hF]; simp only [ew1]; omega) d_CWr_endInWay1_37
    · exact absurd (by rw [hi]; decide) c1
  | succ t ih =>
    intro y1 i1 lo1 rm1 qa1 n1 f1 u1 L1 hR1 hF hi ht H locs cells slots hrm hP hD hS ls hl
    refine lv_iload_n hx hb d_CWr_endInWay1_10 rfl (lv_at hl 0 rfl) ?_
    refine lv_bipush (v := 12) hx hb d_CWr_endInWay1_11 (by decide) ?_
    refine lv_icmp_ge (tgt := 37) hx hb d_CWr_endInWay1_13 (by decide) (fun c2 => ?_) (fun c2 => ?_)
    · exact absurd (by rw [hi] at c2; exact c2) (i_12 (by omega))
    · refine lv_iload_n hx hb d_CWr_endInWay1_16 rfl (lv_at hl 1 rfl) ?_
      refine lv_if_le (tgt := 37) hx hb d_CWr_endInWay1_17 (by decide) (fun c3 => ?_) (fun c3 => ?_)
      · exact krv (wo := wo_CWr_end1 k h0 qs qr qa qc lo sz rm a n f u L) hx hb hr hlk hP hD hS (lo1, rm1, n1, L1) (qa1, f1, u1) (by simp only [po_CWr_end1]; rw [hF, ew1, if_pos c3]; simp) hR1 [0, 1, 2, 3] rfl (by decide) (by rw [hF, ew1, if_pos c3]; dsimp only; omega) (by rw [hF, ew1, if_pos c3]; dsimp only; omega) d_CWr_endInWay1_37
      · refine lv_aload_n hx hb d_CWr_endInWay1_20 rfl (lv_at hl 2 rfl) ?_
        have hb1 := fb_le a lo1 rm1 n1 L1
        have hb2 : (fb a lo1 rm1 n1 L1).2.2.1 ≤ (ew1 12 a (12 - rm) lo rm n L).2.2.1 := by rw [hF, ew1, if_neg c3]; exact ew1_le _ _ _ _ _ _ _
        refine kcv (wc := [(h0, .inr (4, [.ref qs, .ref qc, .int lo1, .int sz, .int rm1])), (qs, .inr (2, [.ref qr, .int a])), (qr, .inr (0, [.ref qa1, .int u1])), (qa1, .inl (k.1, n1, .inl f1))]) (wr := []) (va_runV (As := []) (rest := []) ⟨hx, hb, hml, hown, hts⟩ (c_CWr_fill l hl9 D k h0 qs qr qa1 H.size qc lo1 sz rm1 a n1 f1 u1 L1 (by assumption)) (cwV 0 hts (gV mw_123 mw_124 mw_125 mw_95 mw_126) rfl rfl rfl (by decide +kernel) ⟨(Nat.le_of_ble_eq_true rfl), (Nat.le_of_ble_eq_true rfl)⟩) (kRecv (q := (R_CWr, T_CWr, 5)) (q0 := 0) (ci := 4) hK hP rfl rfl (kPre (wc := [(h0, .inr (4, [.ref qs, .ref qc, .int lo1, .int sz, .int rm1])), (qs, .inr (2, [.ref qr, .int a])), (qr, .inr (0, [.ref qa1, .int u1])), (qa1, .inl (k.1, n1, .inl f1))]) hE hK hP hD hS hA [0, 1, 2, 3] rfl (by decide))) rfl rfl hl.1 rfl (lv_room (Nat.le_of_ble_eq_true rfl)) d_CWr_endInWay1_21 ⟨(by first | omega | (dsimp only; omega)), (by first | omega | (dsimp only; omega))⟩) hP hD hS hA [0, 1, 2, 3] [] rfl rfl (by decide) (by decide) (fun zz uu H locs hw12 hz13 hP hD hS => ?_)
        obtain ⟨q_8, f_9, u_10⟩ := zz
        obtain ⟨lo_4, rm_5, n_6, L_7⟩ := uu
        have hw12 : lo_4 = (fb a lo1 rm1 n1 L1).1 ∧ rm_5 = (fb a lo1 rm1 n1 L1).2.1 ∧ n_6 = (fb a lo1 rm1 n1 L1).2.2.1 ∧ L_7 = (fb a lo1 rm1 n1 L1).2.2.2 := hw12
        have hz13 : row_ok n_6 f_9 u_10 L_7 := hz13
        have hP : va_P D vwCl [(h0, .inr (4, [.ref qs, .ref qc, .int lo_4, .int sz, .int rm_5])), (qs, .inr (2, [.ref qr, .int a])), (qr, .inr (0, [.ref q_8, .int u_10])), (q_8, .inl (k.1, n_6, .inl f_9))] H := hP
        have hD : va_D A [(h0, .inr (4, [.ref qs, .ref qc, .int lo_4, .int sz, .int rm_5])), (qs, .inr (2, [.ref qr, .int a])), (qr, .inr (0, [.ref q_8, .int u_10])), (q_8, .inl (k.1, n_6, .inl f_9))] := hD
        refine lv_iload_n hx hb d_CWr_endInWay1_24 rfl (lv_at hl 1 rfl) ?_
        refine lv_aload_n hx hb d_CWr_endInWay1_25 rfl (lv_at hl 2 rfl) ?_
        refine va_get (D := D) (ci := 4) (v := .int rm_5) (C := R_CWr) (T := T_CWr) (N := 5) hx hb hts inw_CWr hown hK hP 0 rfl rfl 4 (by decide) (hts (.fieldLink R_CWr 27 "LikelyBits$CodedWriter" "room" "I") mw_81) (fun _ h9 => h9) rfl d_CWr_endInWay1_26 ?_
        refine lv_isub hx hb d_CWr_endInWay1_29 ?_
        refine lv_topi (fun x14 ex14 => ?_)
        refine lv_istore_n (lv' := [(1, .int x14), (2, .int i1), (0, .ref h0)]) hx hb d_CWr_endInWay1_30 rfl hl (by decide) rfl (fun ls hl => ?_)
        obtain ⟨x15, ex15⟩ : ∃ y : Int32, y = i1 + 1 := ⟨_, rfl⟩
        refine lv_iinc (v := x15) (lv' := [(2, .int x15), (1, .int x14), (0, .ref h0)]) hx hb d_CWr_endInWay1_31 hl (k := 1) rfl (by rw [ex15]; rfl) (by decide) rfl (fun ls hl => ?_)
        refine lv_goto (tgt := 10) hx hb d_CWr_endInWay1_34 (by decide) ?_
        exact ih x14 x15 lo_4 rm_5 q_8 n_6 f_9 u_10 L_7 (by assumption) (by subst ex15; subst ex14; obtain ⟨rfl, rfl, rfl, rfl⟩ := hw12; rw [hF, ew1, if_neg c3]) (by rw [ex15, hi, show 12 - t = (12 - (t + 1)) + 1 by omega]; exact nI_1 _) (by omega) H _ _ _ (by exact ⟨by omega, by omega, by omega⟩) (ka_P hP (is := [0, 1, 2, 3]) rfl) (hD.sub [0, 1, 2, 3] (by decide) rfl) hS ls (lv_sub hl [0, 1, 2] rfl)
set_option maxHeartbeats 1000000 in
set_option maxRecDepth 100000 in
theorem c_CWr_end1 (l : Launch) (hl9 : l.stackTraces = false) (D : va_G) (k : gK) (h0 qs qr qa : Nat) (zsz : Nat) (qc : Nat) (lo : Int32) (sz : Int32) (rm : Int32) (a : Int32) (n : Nat) (f : Nat → Int32) (u : Int32) (L : List Int32) (hR : row_ok n f u L) : Met l y_CWr_endInWay1 (.code y_CWr_endInWay1 b_CWr_endInWay1 3 none :: AW) ({ frames := 6, cells := (ew1 12 a (12 - rm) lo rm n L).2.2.1 - n, slots := 2 * ((ew1 12 a (12 - rm) lo rm n L).2.2.1 - n), locals := 166 }) (va_Pc [.ref h0] (GG D k [(h0, .inr (4, [.ref qs, .ref qc, .int lo, .int sz, .int rm])), (qs, .inr (2, [.ref qr, .int a])), (qr, .inr (0, [.ref qa, .int u])), (qa, .inl (k.1, n, .inl f))] zsz)) (qc_CWr_end1 D k h0 qs qr qa qc lo sz rm a n f u L (va_A [(h0, .inr (4, [.ref qs, .ref qc, .int lo, .int sz, .int rm])), (qs, .inr (2, [.ref qr, .int a])), (qr, .inr (0, [.ref qa, .int u])), (qa, .inl (k.1, n, .inl f))] zsz)) ((ew1 12 a (12 - rm) lo rm n L).2.2.1 - n) (2 * ((ew1 12 a (12 - rm) lo rm n L).2.2.1 - n)) (va_A [(h0, .inr (4, [.ref qs, .ref qc, .int lo, .int sz, .int rm])), (qs, .inr (2, [.ref qr, .int a])), (qr, .inr (0, [.ref qa, .int u])), (qa, .inl (k.1, n, .inl f))] zsz) := by
  refine kMet (ws := [(h0, .inr (4, [.ref qs, .ref qc, .int lo, .int sz, .int rm])), (qs, .inr (2, [.ref qr, .int a])), (qr, .inr (0, [.ref qa, .int u])), (qa, .inl (k.1, n, .inl f))]) (Qc := qc_CWr_end1 D k h0 qs qr qa qc lo sz rm a n f u L) (by decide) (Nat.le_of_ble_eq_true rfl) (fun p e s m below meth c ls A H Cc hP hD hA hS hl => ?_)
  have Cc9 := Cc
  obtain ⟨hx, hb, hml, hr, hlk, hown, hts, hK, hE, hin⟩ := Cc
  have hl : lv_has ls 3 [(0, .ref h0)] := hl
  refine lv_bipush (v := 12) hx hb d_CWr_endInWay1_0 (by decide) ?_
  refine lv_aload_n hx hb d_CWr_endInWay1_2 rfl (lv_at hl 0 rfl) ?_
  refine va_get (D := D) (ci := 4) (v := .int rm) (C := R_CWr) (T := T_CWr) (N := 5) hx hb hts inw_CWr hown hK hP 0 rfl rfl 4 (by decide) (hts (.fieldLink R_CWr 27 "LikelyBits$CodedWriter" "room" "I") mw_81) (fun _ h9 => h9) rfl d_CWr_endInWay1_3 ?_
  refine lv_isub hx hb d_CWr_endInWay1_6 ?_
  refine lv_topi (fun x1 ex1 => ?_)
  refine lv_istore_n (lv' := [(1, .int x1), (0, .ref h0)]) hx hb d_CWr_endInWay1_7 rfl hl (by decide) rfl (fun ls hl => ?_)
  refine lv_iconst (v := 0) hx hb d_CWr_endInWay1_8 (by decide) ?_
  refine lv_istore_n (lv' := [(2, .int 0), (1, .int x1), (0, .ref h0)]) hx hb d_CWr_endInWay1_9 rfl hl (by decide) rfl (fun ls hl => ?_)
  exact lp_CWr_end1_10 l hl9 D k h0 qs qr qa qc lo sz rm a n f u L Cc9 hA 12 x1 0 lo rm qa n f u L hR (by rw [ex1]) rfl (by decide) H _ _ _ ⟨Nat.zero_le _, Nat.zero_le _, Nat.le_refl _⟩ (ka_P hP (is := [0, 1, 2, 3]) rfl) (hD.sub [0, 1, 2, 3] (by decide) rfl) hS ls (lv_sub hl [0, 1, 2] rfl)

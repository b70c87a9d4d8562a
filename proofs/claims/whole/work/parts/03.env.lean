/-! what every walk of this claim may lean on beside its words: the static tables, Throwable's statics, the texts, the nest's links -/
abbrev gK : Type := ClassId × ClassId × Nat × Nat × Nat × (Nat → Nat)
abbrev gTY (k : gK) : List (ClassId × FieldType) := [(k.1, .int), (k.2.1, .long)]
def nwK : Cond → Bool
  | .fieldLinkNest .. => true
  | .methodLinkNest .. => true
  | .castable .. => true
  | .declares .. => true
  | _ => false
def NW : List Cond := lw_tbl.filter nwK
theorem inNW {w : Cond} (h : w ∈ lw_tbl) (g : nwK w = true) : w ∈ NW := List.mem_filter.mpr ⟨h, g⟩
theorem nwK_tab {w : Cond} (h : nwK w = true) : w.onTables = true := by
  cases w <;> first | rfl | (simp [nwK] at h)
theorem nwK_warm {w : Cond} (h : nwK w = true) {s U : State} (hW : s.WarmedH U.vm) (hZ : va_Nw w s) : va_Nw w U := by
  cases w <;> first | exact va_Nw.warmF hW hZ | exact va_Nw.warmM hW hZ | exact va_Nw.warmC hW hZ | exact va_Nw.warmD hW hZ | (simp [nwK] at h)
def tabP : List Int32 := [22017, 13313, 6145, 2753, 1313, 545, 22017, 21505, 18433, 14337, 12289, 9217, 7169, 5633, 22017, 21505, 20737, 18433, 14337, 13313, 12289, 10241, 9217, 8705, 7169, 6145, 5633, 5121, 4609, 4353, 2753, 2497, 2209, 1313, 1089, 673, 545, 321, 273, 133, 73, 37, 21, 9, 5, 1, 22017]
def tabN : List Int32 := [1, 2, 3, 4, 5, 38, 7, 8, 9, 10, 11, 12, 13, 29, 15, 16, 17, 18, 19, 20, 21, 22, 23, 24, 25, 26, 27, 28, 29, 30, 31, 32, 33, 34, 35, 36, 37, 38, 39, 40, 41, 42, 43, 44, 45, 45, 46]
def tabO : List Int32 := [1, 6, 9, 12, 29, 33, 6, 14, 14, 14, 17, 18, 20, 21, 14, 14, 15, 16, 17, 18, 19, 19, 20, 21, 22, 23, 24, 25, 26, 27, 28, 29, 30, 31, 32, 33, 34, 35, 36, 37, 38, 39, 40, 41, 42, 43, 46]
def gStr : List (Nat × String) := [(90, "a byte is 0 .. 255"), (97, "a segment is open"), (107, "there are 65,536 bytes"), (116, "there is no such byte"), (127, "a context is 0 .. 18"), (129, "a state is 0 .. 46"), (131, "a bit is 0 or 1"), (155, "no segment is open"), (161, "a context is 0 .. 18, or -1 for raw bits"), (163, "the bits are 1 .. 64"), (166, "there are more than 65,000 bytes"), (177, "a way is 0 or 1"), (191, "there are no such bytes"), (200, "nothing is read")]
def xA : String := "java/lang/IllegalArgumentException"
def xS : String := "java/lang/IllegalStateException"
def xU : String := "java/lang/UnsupportedOperationException"
def xI : String := "java/lang/IndexOutOfBoundsException"
def gNc : List (String × String) := [(xS, xA), (xU, xA), (xA, xS), (xU, xS)]
def gTab (nm : String) (t : Nat) (l : List Int32) (A : Nat → Prop) (U : State) (H : Heap) : Prop := va_Z "LikelyBits" nm "[I" (.ref t) A U H ∧ va_T .int t 47 (fun j => .int (l.getD j 0)) A U H
def EV (k : gK) (A : Nat → Prop) (U : State) (H : Heap) : Prop :=
  (∀ w ∈ NW, va_Nw w U) ∧ gTab "PARTS" k.2.2.1 tabP A U H ∧ gTab "NEXT_STATES" k.2.2.2.1 tabN A U H ∧ gTab "OTHER_STATES" k.2.2.2.2.1 tabO A U H ∧
  vx_Zq Bundle.tN "UNASSIGNED_STACK" Bundle.steD A U H ∧ vx_Zq Bundle.tN "SUPPRESSED_SENTINEL" Bundle.listD A U H ∧ (∀ q ∈ gStr, vk_R "LikelyBits" q.1 q.2 (k.2.2.2.2.2 q.1) U) ∧ ∀ q ∈ gNc, va_Nc q.1 q.2 U
section EVA
variable {k : gK} {A B : Nat → Prop} {s U : State} {H : Heap} {locs : List Loc}
theorem EV.nest (h : EV k A U H) (w : Cond) (hw : w ∈ NW) {args : Array Value} : w.before args U = true := va_Nw.use (nwK_tab (List.mem_filter.mp hw).2) (h.1 w hw)
theorem EV.nestN (h : EV k A U H) (w : Cond) (hw : w ∈ NW) : va_Nw w U := h.1 w hw
theorem EV.zP (h : EV k A U H) : va_Z "LikelyBits" "PARTS" "[I" (.ref k.2.2.1) A U H := h.2.1.1
theorem EV.tP (h : EV k A U H) : va_T .int k.2.2.1 47 (fun j => .int (tabP.getD j 0)) A U H := h.2.1.2
theorem EV.zN (h : EV k A U H) : va_Z "LikelyBits" "NEXT_STATES" "[I" (.ref k.2.2.2.1) A U H := h.2.2.1.1
theorem EV.tN (h : EV k A U H) : va_T .int k.2.2.2.1 47 (fun j => .int (tabN.getD j 0)) A U H := h.2.2.1.2
theorem EV.zO (h : EV k A U H) : va_Z "LikelyBits" "OTHER_STATES" "[I" (.ref k.2.2.2.2.1) A U H := h.2.2.2.1.1
theorem EV.tO (h : EV k A U H) : va_T .int k.2.2.2.2.1 47 (fun j => .int (tabO.getD j 0)) A U H := h.2.2.2.1.2
theorem EV.hU (h : EV k A U H) : vx_Zq Bundle.tN "UNASSIGNED_STACK" Bundle.steD A U H := h.2.2.2.2.1
theorem EV.hN (h : EV k A U H) : vx_Zq Bundle.tN "SUPPRESSED_SENTINEL" Bundle.listD A U H := h.2.2.2.2.2.1
theorem EV.str (h : EV k A U H) (q : Nat × String) (hq : q ∈ gStr) : vk_R "LikelyBits" q.1 q.2 (k.2.2.2.2.2 q.1) U := h.2.2.2.2.2.2.1 q hq
theorem EV.nc (h : EV k A U H) (q : String × String) (hq : q ∈ gNc) : va_Nc q.1 q.2 U := h.2.2.2.2.2.2.2 q hq
theorem gTab.call {nm : String} {t : Nat} {l : List Int32} (h : gTab nm t l A s s.heap) (hS : va_S A s.heap U.heap locs) (hB : ∀ q, B q → A q) (hW : s.WarmedH U.vm) : gTab nm t l B U U.heap :=
  ⟨va_Z.moved hW.alike ((h.1.kept hS.2.1).narrow hB), va_T.moved hW.alike ((h.2.kept hS.2.1).narrow hB)⟩
theorem EV.call (h : EV k A s s.heap) (hS : va_S A s.heap H locs) (hB : ∀ q, B q → A q) (hU : U.heap = H) (hW : s.WarmedH U.vm) : EV k B U U.heap := by
  subst hU
  obtain ⟨h1, h2, h3, h4, h5, h6, h7, h8⟩ := h
  exact ⟨fun w hw => nwK_warm (List.mem_filter.mp hw).2 hW (h1 w hw), h2.call hS hB hW, h3.call hS hB hW, h4.call hS hB hW, vx_Zq.moved hW.alike ((h5.kept hS.2.1).narrow hB), vx_Zq.moved hW.alike ((h6.kept hS.2.1).narrow hB), fun q hq => vk_R.warm hW (h7 q hq), fun q hq => va_Nc.moved hW.alike (h8 q hq)⟩
theorem gTab.same {nm : String} {t : Nat} {l : List Int32} {H' : Heap} (hv : s.vm = U.vm) (hH : H = H') (h : gTab nm t l A s H) : gTab nm t l A U H' := by
  subst hH
  exact ⟨va_Z.moved (by rw [hv]; exact Vm.Alike.refl _) h.1, va_T.moved (by rw [hv]; exact Vm.Alike.refl _) h.2⟩
theorem EV.same {H' : Heap} (hv : s.vm = U.vm) (hH : H = H') (h : EV k A s H) : EV k A U H' := by
  obtain ⟨h1, h2, h3, h4, h5, h6, h7, h8⟩ := h
  have ha : s.vm.Alike U.vm := by rw [hv]; exact Vm.Alike.refl _
  subst hH
  exact ⟨fun w hw => va_Nw.same (nwK_tab (List.mem_filter.mp hw).2) hv (h1 w hw), h2.same hv rfl, h3.same hv rfl, h4.same hv rfl, vx_Zq.moved ha h5, vx_Zq.moved ha h6, fun q hq => vk_R.same hv.symm (h7 q hq), fun q hq => va_Nc.moved ha (h8 q hq)⟩
end EVA
/-! a callee's words -/
theorem gGood {w : Cond} (h : w ∈ AW) : w ∈ AW ∧ ((w.onTables && w.keeps) = true ∨ ∃ ty, w = .arrayClass ty) := ⟨h, good_of_word (AW_good h)⟩
theorem gI {y : MethodName} {b : ByteArray} {n : Nat} {r : Option FieldType} (h5 : Cond.code y b n r ∈ AW) : GoodIn AW (.code y b n r :: AW) := fun w hw => (List.mem_cons.mp hw).elim (fun e => by rw [e]; exact gGood h5) (fun h => gGood h)
theorem gV {own C : String} {idx : Nat} {y : MethodName} {b : ByteArray} {n : Nat} {r : Option FieldType} (h1 : Cond.methodLink own idx y ∈ AW) (h2 : Cond.instanceMethod y ∈ AW) (h3 : Cond.selects C y y ∈ AW) (h4 : Cond.initialized C ∈ AW) (h5 : Cond.code y b n r ∈ AW) : GoodIn AW (wsV own idx C y (.code y b n r :: AW)) := by
  intro w hw
  simp only [wsV, List.mem_append, List.mem_cons, List.not_mem_nil, or_false] at hw
  rcases hw with (rfl | rfl | rfl | rfl) | (rfl | h)
  · exact gGood h1
  · exact gGood h2
  · exact gGood h3
  · exact gGood h4
  · exact gGood h5
  · exact gGood h
theorem gS {own : String} {idx : Nat} {y : MethodName} {b : ByteArray} {n : Nat} {r : Option FieldType} (h1 : Cond.methodLink own idx y ∈ AW) (h2 : Cond.static y ∈ AW) (h4 : Cond.initialized own ∈ AW) (h5 : Cond.code y b n r ∈ AW) : GoodIn AW (wsS own idx y (.code y b n r :: AW)) := by
  intro w hw
  simp only [wsS, List.mem_append, List.mem_cons, List.not_mem_nil, or_false] at hw
  rcases hw with (rfl | rfl | rfl) | (rfl | h)
  · exact gGood h1
  · exact gGood h2
  · exact gGood h4
  · exact gGood h5
  · exact gGood h
/-! numbers -/
def jushr (x y : Int32) : Int32 := (x.toUInt32 >>> (y.toUInt32 &&& Int32.toUInt32 31)).toInt32
def jlushr (x : Int64) (y : Int32) : Int64 := (x.toUInt64 >>> (y.toInt64.toUInt64 &&& Int64.toUInt64 63)).toInt64
theorem ix_in {j : Int32} {n : Nat} (hn : n < 2 ^ 31) (c1 : ¬ j < 0) (c2 : ¬ nI n ≤ j) : vp_in j n := by
  obtain ⟨i, hi, rfl⟩ := nI_of c1
  rcases Nat.lt_or_ge i n with h | h
  · exact vp_in_nI h hn
  · exact absurd (nI_le h hi) c2
theorem bz_n {v : Int32} (h : v = 0 ∨ v = 1) : narrow .boolean (.int v) = .int v := by rcases h with rfl | rfl <;> rfl
theorem bz_f {v : Int32} (h : v = 0 ∨ v = 1) : fits .boolean (.int v) = true := by rcases h with rfl | rfl <;> rfl

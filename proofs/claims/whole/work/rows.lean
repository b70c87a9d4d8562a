section
-- ===== PART A: goes FIRST, ahead of the names: the tables' words, and 'selects' of the private methods out of them =====
/-- a private method of a class that the tables say can be made, by its rows of tables_1 -/
def lw_okq (q : MethodName × Nat) : Prop := (q.1.cls ≠ "java/lang/invoke/MethodHandle" ∧ q.1.cls ≠ "java/lang/invoke/VarHandle") ∧ Cond.instantiable q.1.cls q.2 ∈ tables_1 ∧ Cond.privateMethod q.1 ∈ tables_1 ∧ Cond.instanceMethod q.1 ∈ tables_1
theorem lw_p0 : lw_okq (⟨"LikelyBits", "roomOfSegment", "()I"⟩, 13) := ⟨⟨by decide +kernel, by decide +kernel⟩, List.mem_of_getElem? (i := 22) (by decide +kernel), List.mem_of_getElem? (i := 223) (by decide +kernel), List.mem_of_getElem? (i := 224) (by decide +kernel)⟩
theorem lw_p1 : lw_okq (⟨"java/lang/Throwable", "fillInStackTrace", "(I)Ljava/lang/Throwable;"⟩, 6) := ⟨⟨by decide +kernel, by decide +kernel⟩, List.mem_of_getElem? (i := 276) (by decide +kernel), List.mem_of_getElem? (i := 274) (by decide +kernel), List.mem_of_getElem? (i := 275) (by decide +kernel)⟩
theorem lw_p2 : lw_okq (⟨"LikelyBits", "contextsOf", "(Z)LLikelyBits$Contexts;"⟩, 13) := ⟨⟨by decide +kernel, by decide +kernel⟩, List.mem_of_getElem? (i := 22) (by decide +kernel), List.mem_of_getElem? (i := 406) (by decide +kernel), List.mem_of_getElem? (i := 407) (by decide +kernel)⟩
theorem lw_p3 : lw_okq (⟨"LikelyBits$CodedWriter", "addLikely", "(II)V"⟩, 5) := ⟨⟨by decide +kernel, by decide +kernel⟩, List.mem_of_getElem? (i := 70) (by decide +kernel), List.mem_of_getElem? (i := 506) (by decide +kernel), List.mem_of_getElem? (i := 507) (by decide +kernel)⟩
theorem lw_p4 : lw_okq (⟨"LikelyBits$CodedWriter", "addOther", "(II)V"⟩, 5) := ⟨⟨by decide +kernel, by decide +kernel⟩, List.mem_of_getElem? (i := 70) (by decide +kernel), List.mem_of_getElem? (i := 518) (by decide +kernel), List.mem_of_getElem? (i := 519) (by decide +kernel)⟩
theorem lw_p5 : lw_okq (⟨"LikelyBits$CodedWriter", "enlarge", "()V"⟩, 5) := ⟨⟨by decide +kernel, by decide +kernel⟩, List.mem_of_getElem? (i := 70) (by decide +kernel), List.mem_of_getElem? (i := 531) (by decide +kernel), List.mem_of_getElem? (i := 532) (by decide +kernel)⟩
theorem lw_p6 : lw_okq (⟨"LikelyBits$CodedWriter", "byteOut", "()V"⟩, 5) := ⟨⟨by decide +kernel, by decide +kernel⟩, List.mem_of_getElem? (i := 70) (by decide +kernel), List.mem_of_getElem? (i := 535) (by decide +kernel), List.mem_of_getElem? (i := 536) (by decide +kernel)⟩
theorem lw_p7 : lw_okq (⟨"LikelyBits$CodedWriter", "fillByteOut", "()V"⟩, 5) := ⟨⟨by decide +kernel, by decide +kernel⟩, List.mem_of_getElem? (i := 70) (by decide +kernel), List.mem_of_getElem? (i := 569) (by decide +kernel), List.mem_of_getElem? (i := 570) (by decide +kernel)⟩
theorem lw_p8 : lw_okq (⟨"LikelyBits$CodedReader", "byteIn", "()V"⟩, 6) := ⟨⟨by decide +kernel, by decide +kernel⟩, List.mem_of_getElem? (i := 129) (by decide +kernel), List.mem_of_getElem? (i := 616) (by decide +kernel), List.mem_of_getElem? (i := 617) (by decide +kernel)⟩
theorem lw_p9 : lw_okq (⟨"LikelyBits$CodedReader", "enlarge", "()V"⟩, 6) := ⟨⟨by decide +kernel, by decide +kernel⟩, List.mem_of_getElem? (i := 129) (by decide +kernel), List.mem_of_getElem? (i := 643) (by decide +kernel), List.mem_of_getElem? (i := 644) (by decide +kernel)⟩
theorem lw_p10 : lw_okq (⟨"LikelyBitsModel", "throwing", "(ZZZ)Z"⟩, 23) := ⟨⟨by decide +kernel, by decide +kernel⟩, List.mem_of_getElem? (i := 647) (by decide +kernel), List.mem_of_getElem? (i := 739) (by decide +kernel), List.mem_of_getElem? (i := 740) (by decide +kernel)⟩
theorem lw_p11 : lw_okq (⟨"LikelyBitsModel", "writeRaw", "(I)V"⟩, 23) := ⟨⟨by decide +kernel, by decide +kernel⟩, List.mem_of_getElem? (i := 647) (by decide +kernel), List.mem_of_getElem? (i := 765) (by decide +kernel), List.mem_of_getElem? (i := 766) (by decide +kernel)⟩
theorem lw_p12 : lw_okq (⟨"LikelyBitsModel", "hasLast", "()Z"⟩, 23) := ⟨⟨by decide +kernel, by decide +kernel⟩, List.mem_of_getElem? (i := 647) (by decide +kernel), List.mem_of_getElem? (i := 769) (by decide +kernel), List.mem_of_getElem? (i := 770) (by decide +kernel)⟩
theorem lw_p13 : lw_okq (⟨"LikelyBitsModel", "writeCoded", "(II)V"⟩, 23) := ⟨⟨by decide +kernel, by decide +kernel⟩, List.mem_of_getElem? (i := 647) (by decide +kernel), List.mem_of_getElem? (i := 773) (by decide +kernel), List.mem_of_getElem? (i := 774) (by decide +kernel)⟩
theorem lw_p14 : lw_okq (⟨"LikelyBitsModel", "carry", "()I"⟩, 23) := ⟨⟨by decide +kernel, by decide +kernel⟩, List.mem_of_getElem? (i := 647) (by decide +kernel), List.mem_of_getElem? (i := 777) (by decide +kernel), List.mem_of_getElem? (i := 778) (by decide +kernel)⟩
theorem lw_p15 : lw_okq (⟨"LikelyBitsModel", "keep", "(I)V"⟩, 23) := ⟨⟨by decide +kernel, by decide +kernel⟩, List.mem_of_getElem? (i := 647) (by decide +kernel), List.mem_of_getElem? (i := 781) (by decide +kernel), List.mem_of_getElem? (i := 782) (by decide +kernel)⟩
def lw_privs_1 : List (MethodName × Nat) := [(⟨"LikelyBits", "roomOfSegment", "()I"⟩, 13), (⟨"java/lang/Throwable", "fillInStackTrace", "(I)Ljava/lang/Throwable;"⟩, 6), (⟨"LikelyBits", "contextsOf", "(Z)LLikelyBits$Contexts;"⟩, 13), (⟨"LikelyBits$CodedWriter", "addLikely", "(II)V"⟩, 5), (⟨"LikelyBits$CodedWriter", "addOther", "(II)V"⟩, 5), (⟨"LikelyBits$CodedWriter", "enlarge", "()V"⟩, 5), (⟨"LikelyBits$CodedWriter", "byteOut", "()V"⟩, 5), (⟨"LikelyBits$CodedWriter", "fillByteOut", "()V"⟩, 5), (⟨"LikelyBits$CodedReader", "byteIn", "()V"⟩, 6), (⟨"LikelyBits$CodedReader", "enlarge", "()V"⟩, 6), (⟨"LikelyBitsModel", "throwing", "(ZZZ)Z"⟩, 23), (⟨"LikelyBitsModel", "writeRaw", "(I)V"⟩, 23), (⟨"LikelyBitsModel", "hasLast", "()Z"⟩, 23), (⟨"LikelyBitsModel", "writeCoded", "(II)V"⟩, 23), (⟨"LikelyBitsModel", "carry", "()I"⟩, 23), (⟨"LikelyBitsModel", "keep", "(I)V"⟩, 23)]
theorem lw_r1 : ∀ q ∈ lw_privs_1, lw_okq q := List.forall_mem_cons.mpr ⟨lw_p0, List.forall_mem_cons.mpr ⟨lw_p1, List.forall_mem_cons.mpr ⟨lw_p2, List.forall_mem_cons.mpr ⟨lw_p3, List.forall_mem_cons.mpr ⟨lw_p4, List.forall_mem_cons.mpr ⟨lw_p5, List.forall_mem_cons.mpr ⟨lw_p6, List.forall_mem_cons.mpr ⟨lw_p7, List.forall_mem_cons.mpr ⟨lw_p8, List.forall_mem_cons.mpr ⟨lw_p9, List.forall_mem_cons.mpr ⟨lw_p10, List.forall_mem_cons.mpr ⟨lw_p11, List.forall_mem_cons.mpr ⟨lw_p12, List.forall_mem_cons.mpr ⟨lw_p13, List.forall_mem_cons.mpr ⟨lw_p14, List.forall_mem_cons.mpr ⟨lw_p15, fun _ h => absurd h List.not_mem_nil⟩⟩⟩⟩⟩⟩⟩⟩⟩⟩⟩⟩⟩⟩⟩⟩
theorem lw_p16 : lw_okq (⟨"LikelyBitsModel", "takes", "()Z"⟩, 23) := ⟨⟨by decide +kernel, by decide +kernel⟩, List.mem_of_getElem? (i := 647) (by decide +kernel), List.mem_of_getElem? (i := 785) (by decide +kernel), List.mem_of_getElem? (i := 786) (by decide +kernel)⟩
theorem lw_p17 : lw_okq (⟨"LikelyBitsModel", "change", "(IZ)V"⟩, 23) := ⟨⟨by decide +kernel, by decide +kernel⟩, List.mem_of_getElem? (i := 647) (by decide +kernel), List.mem_of_getElem? (i := 789) (by decide +kernel), List.mem_of_getElem? (i := 790) (by decide +kernel)⟩
theorem lw_p18 : lw_okq (⟨"LikelyBitsModel", "byteOut", "()V"⟩, 23) := ⟨⟨by decide +kernel, by decide +kernel⟩, List.mem_of_getElem? (i := 647) (by decide +kernel), List.mem_of_getElem? (i := 799) (by decide +kernel), List.mem_of_getElem? (i := 800) (by decide +kernel)⟩
theorem lw_p19 : lw_okq (⟨"LikelyBitsModel", "push", "()V"⟩, 23) := ⟨⟨by decide +kernel, by decide +kernel⟩, List.mem_of_getElem? (i := 647) (by decide +kernel), List.mem_of_getElem? (i := 812) (by decide +kernel), List.mem_of_getElem? (i := 813) (by decide +kernel)⟩
theorem lw_p20 : lw_okq (⟨"LikelyBitsModel", "byteAt", "(I)I"⟩, 23) := ⟨⟨by decide +kernel, by decide +kernel⟩, List.mem_of_getElem? (i := 647) (by decide +kernel), List.mem_of_getElem? (i := 820) (by decide +kernel), List.mem_of_getElem? (i := 821) (by decide +kernel)⟩
theorem lw_p21 : lw_okq (⟨"LikelyBitsModel", "comesIn", "()I"⟩, 23) := ⟨⟨by decide +kernel, by decide +kernel⟩, List.mem_of_getElem? (i := 647) (by decide +kernel), List.mem_of_getElem? (i := 825) (by decide +kernel), List.mem_of_getElem? (i := 826) (by decide +kernel)⟩
theorem lw_p22 : lw_okq (⟨"LikelyBitsModel", "readRaw", "()I"⟩, 23) := ⟨⟨by decide +kernel, by decide +kernel⟩, List.mem_of_getElem? (i := 647) (by decide +kernel), List.mem_of_getElem? (i := 834) (by decide +kernel), List.mem_of_getElem? (i := 835) (by decide +kernel)⟩
theorem lw_p23 : lw_okq (⟨"LikelyBitsModel", "readCoded", "(I)I"⟩, 23) := ⟨⟨by decide +kernel, by decide +kernel⟩, List.mem_of_getElem? (i := 647) (by decide +kernel), List.mem_of_getElem? (i := 838) (by decide +kernel), List.mem_of_getElem? (i := 839) (by decide +kernel)⟩
theorem lw_p24 : lw_okq (⟨"LikelyBitsModel", "round", "()V"⟩, 23) := ⟨⟨by decide +kernel, by decide +kernel⟩, List.mem_of_getElem? (i := 647) (by decide +kernel), List.mem_of_getElem? (i := 842) (by decide +kernel), List.mem_of_getElem? (i := 843) (by decide +kernel)⟩
def lw_privs_2 : List (MethodName × Nat) := [(⟨"LikelyBitsModel", "takes", "()Z"⟩, 23), (⟨"LikelyBitsModel", "change", "(IZ)V"⟩, 23), (⟨"LikelyBitsModel", "byteOut", "()V"⟩, 23), (⟨"LikelyBitsModel", "push", "()V"⟩, 23), (⟨"LikelyBitsModel", "byteAt", "(I)I"⟩, 23), (⟨"LikelyBitsModel", "comesIn", "()I"⟩, 23), (⟨"LikelyBitsModel", "readRaw", "()I"⟩, 23), (⟨"LikelyBitsModel", "readCoded", "(I)I"⟩, 23), (⟨"LikelyBitsModel", "round", "()V"⟩, 23)]
theorem lw_r2 : ∀ q ∈ lw_privs_2, lw_okq q := List.forall_mem_cons.mpr ⟨lw_p16, List.forall_mem_cons.mpr ⟨lw_p17, List.forall_mem_cons.mpr ⟨lw_p18, List.forall_mem_cons.mpr ⟨lw_p19, List.forall_mem_cons.mpr ⟨lw_p20, List.forall_mem_cons.mpr ⟨lw_p21, List.forall_mem_cons.mpr ⟨lw_p22, List.forall_mem_cons.mpr ⟨lw_p23, List.forall_mem_cons.mpr ⟨lw_p24, fun _ h => absurd h List.not_mem_nil⟩⟩⟩⟩⟩⟩⟩⟩⟩
def lw_privs : List (MethodName × Nat) := lw_privs_1 ++ (lw_privs_2)
def lw_tbl : List Cond := k2_sels lw_privs ++ tables_1
theorem lw_privs_ok : ∀ q ∈ lw_privs, lw_okq q := by
  show ∀ q ∈ lw_privs_1 ++ (lw_privs_2), lw_okq q
  exact List.forall_mem_append.mpr ⟨lw_r1, lw_r2⟩
/-! ===== BEGIN words of one list among another's, by their places ===== -/
theorem goodIn_r {big : List Cond} (ws : List Cond) (ps : List Nat) (hp : ws = ps.filterMap (fun i => big[i]?)) (h : ws.all goodWord = true) : GoodIn big ws := by
  intro w hw
  have h1 := List.all_eq_true.mp h w hw
  rw [hp] at hw
  obtain ⟨i, -, hi⟩ := List.mem_filterMap.mp hw
  have hm : w ∈ big := by first | exact List.mem_of_getElem? hi | exact List.getElem?_mem hi
  exact ⟨hm, good_of_word h1⟩
theorem goodIn_app {big a b : List Cond} (ha : GoodIn big a) (hb : GoodIn big b) : GoodIn big (a ++ b) := fun w h => (List.mem_append.mp h).elim (ha w) (hb w)
theorem goodIn_ca {big a b : List Cond} {c : Cond} (ha : GoodIn big (c :: a)) (hb : GoodIn big b) : GoodIn big (c :: (a ++ b)) := fun w h => (List.mem_cons.mp h).elim (fun e => ha w (List.mem_cons.mpr (Or.inl e))) (fun h => (List.mem_append.mp h).elim (fun h => ha w (List.mem_cons.mpr (Or.inr h))) (hb w))
theorem goodIn_sub {big ws : List Cond} (hm : ∀ w ∈ ws, w ∈ big) (h : ws.all goodWord = true) : GoodIn big ws := fun w hw => ⟨hm w hw, good_of_word (List.all_eq_true.mp h w hw)⟩
/-! ===== END ===== -/

/-! ===== BEGIN exceptions that leave a method, and their catching by the caller (launches without stack traces) ===== -/
section VXA
/-! The laws vx_back, vx_callV, vx_callS, vx_callSW, vx_throw0, vx_throwS follow proofs of the library, with one case more: JvmDerived/Free/Laws.lean (Back.of_free), Shelf42/LK1.lean (callV, callS), Shelf/KitTraced.lean (throwNew0V, throwNewS). -/
/-- where a method has thrown q: the class by its name, the cell, what was written, the world -/
def vx_T (XC : String → State → State → Prop) (st : State) (q : Addr) (t : State) (mc ms : Nat) (free : Addr → Prop) : Prop :=
  ∃ (E : String) (ce : Cell) (L : List Loc), XC E st t ∧ t.heap[q]? = some ce ∧ ce.vm = .none ∧ st.vm.findClass E = some ce.cls ∧ st.WarmedH t.vm ∧ st.sameButNew ({ t with vm := st.vm } : State) L mc ms ∧ ∀ z ∈ L, free z.base
def vx_Q (Qc : Array Value → State → Outcome → State → Prop) (XC : String → State → State → Prop) (mc ms : Nat) (free : Addr → Prop) : Array Value → State → Outcome → State → Prop := fun a st o t =>
  (Qc a st o t ∧ ∃ L, FrameEnd st o t L mc ms ∧ ∀ q ∈ L, free q.base) ∨ ∃ q, o = .threw q ∧ vx_T XC st q t mc ms free
/-- a callee that returns or throws -/
def vx_Met (l : Launch) (y : MethodName) (ws : List Cond) (rm : Room) (Pc : Array Value → State → Prop) (Qc : Array Value → State → Outcome → State → Prop) (XC : String → State → State → Prop) (mc ms : Nat) (free : Addr → Prop) : Prop :=
  MetFree l y (headSpec ws rm) Pc (fun _ _ _ _ _ => True) (vx_Q Qc XC mc ms free)
def vx_Post (XC : String → State → State → Prop) (mc ms : Nat) (free : Addr → Prop) : Pt → Array Value → Addr → Pt → Prop := fun A a q B =>
  ∃ (g : JFrame) (mk : MethodId) (t : State) (L : List Loc) (E : String) (ce : Cell), B.U.heap = t.heap ∧ B.U.vm = t.vm ∧ XC E (A.U.calling g mk a) t ∧ t.heap[q]? = some ce ∧ ce.vm = .none ∧ A.U.vm.findClass E = some ce.cls ∧ B.locs = A.locs ++ L ∧ (∀ z ∈ L, free z.base) ∧ B.cells = A.cells + mc ∧ B.slots = A.slots + ms
def vx_Back (l : Launch) (R : Room) (p : Program) (e : Env) (below : List Frame) (s : State) (sargs : Array Value) (y : MethodName) (len W9 : Nat)
    (Pre : Pt → Array Value → Prop) (Post : Pt → Array Value → Option Value → Pt → Prop) (PostX : Pt → Array Value → Addr → Pt → Prop) : Prop :=
  ∀ (m : MethodId) (meth : Method) (c : Code) (A : Pt) (g : JFrame) (ig : Instr) (mk : MethodId) (a : Array Value),
    Stand p l e R s m sargs below meth c A.U A.locs A.cells A.slots → g.method = m → g.locals.size = c.maxLocals → decode c.code g.pc = .ok (ig, len) →
    2 * g.monitorRoom + (g.stack.map fun v => v.category).sum ≤ W9 → A.U.methodNamed? y = some mk → Pre A a →
    (∃ (v : Option Value) (B : Pt), Stand p l e R s m sargs below meth c B.U B.locs B.cells B.slots ∧ Post A a v B ∧
      Steps p.tables e below (doInvoke e (A.U.setTop g) [] mk a).1 (B.U.setTop { g with pc := g.pc + len, stack := v.toList ++ g.stack })) ∨
    (∃ (q : Addr) (B : Pt), Stand p l e R s m sargs below meth c B.U B.locs B.cells B.slots ∧ PostX A a q B ∧
      Steps p.tables e below (doInvoke e (A.U.setTop g) [] mk a).1 ((B.U.setTop g).pushFrame (.throwing q)))
section Payer
variable {l : Launch} {R : Room} {p : Program} {e : Env} {below : List Frame} {s : State} {sargs : Array Value} {y : MethodName} {len W9 : Nat}
theorem vx_back {ws : List Cond} {rm : Room} {Pc : Array Value → State → Prop} {Qc : Array Value → State → Outcome → State → Prop} {XC : String → State → State → Prop} {mc ms : Nat} {free : Addr → Prop} {bytes : ByteArray} {maxL : Nat} {ret : Option FieldType}
    (hM : vx_Met l y ws rm Pc Qc XC mc ms free) (hblind : FrameBlind Pc) (hrc : rm.cells = mc) (hrs : rm.slots = ms)
    (hframes : rm.frames + 1 ≤ R.frames) (hlocals : W9 + (maxL + 11) + rm.locals ≤ R.locals)
    (hws : ∀ w ∈ ws, ∀ a' U, s.WarmedH U.vm → w.before a' U = true) (hcode : Cond.code y bytes maxL ret ∈ ws) (hinit : ∀ a' U, s.WarmedH U.vm → (Cond.initialized y.cls).before a' U = true) :
    vx_Back l R p e below s sargs y len W9 (PreOf R mc ms Pc) (PostOf Qc mc ms free) (vx_Post XC mc ms free) := by
  intro m meth c A g ig mk a X hg hsize hdg hW hn hp
  have h1 : (headSpec ws rm).pre.before a A.U = true := atoms_intro fun w hw => hws w hw _ _ X.warmed
  have h2 : (Cond.code y bytes maxL ret).before a A.U = true := hws _ hcode _ _ X.warmed
  have h3 : (Cond.initialized y.cls).before a A.U = true := hinit _ _ X.warmed
  have h4 : A.cells + (headSpec ws rm).room.cells ≤ R.cells := by rw [show (headSpec ws rm).room.cells = mc from hrc]; exact hp.1
  have h5 : A.slots + (headSpec ws rm).room.slots ≤ R.slots := by rw [show (headSpec ws rm).room.slots = ms from hrs]; exact hp.2.1
  have hPc : Pc a (A.U.calling g mk a) := hblind _ _ _ _ hp.2.2
  obtain ⟨U, Ls, c0, s0⟩ := A
  dsimp only [Pt.U, Pt.locs, Pt.cells, Pt.slots] at h1 h2 h3 h4 h5 X hn hPc ⊢
  obtain ⟨methY, cY, hmY, hcY, -, hlY, -, -, -, -⟩ := Cond.code_spec hn h2
  obtain ⟨kY, hkY, -⟩ := className_of_methodNamed hn
  have hinitY : kY.init = .initialized := Cond.initialized_spec (findClass_of_methodNamed hn) hkY h3
  have h : At U g.method c below := by rw [hg]; exact X.here
  have hlocals9 : W9 + (maxL + 11) + (headSpec ws rm).room.locals ≤ R.locals := hlocals
  have happ : (headSpec ws rm).appliesLoose y e.platform (U.calling g mk a) = true :=
    Spec.appliesLoose_calling (g := g) h hdg hn hkY hinitY
      (X.room_calling (g := g) (R' := (headSpec ws rm).room) hsize hmY hcY hframes (by rw [hlY]; omega) h4 h5) h1
  obtain ⟨mid, hmid⟩ := h.above
  have hfr : (U.setTop g).frames = (.java g :: mid) ++ below := by rw [State.frames_setTop' g h.top, hmid]; rfl
  obtain ⟨o, s₂, hsteps, -, hend, hq⟩ := Steps.callFree hM p X.admits X.cas X.clock (acts := []) hfr happ hPc trivial
  have hq' : vx_Q Qc XC mc ms free a (U.calling g mk a) o s₂ := hq
  rw [State.frames_setTop' g h.top] at hend
  obtain ⟨g₀, hg0⟩ := Option.isSome_iff_exists.mp h.top
  obtain ⟨r, hr⟩ := State.topJava?_eq_some.mp hg0
  have hr' : (({ U with heap := s₂.heap, slotsUsed := s₂.slotsUsed } : State).setVm s₂.vm).frames = .java g₀ :: r := hr
  rcases hq' with ⟨hqc, L, hfe, hL⟩ | ⟨q, rfl, E, ce, L, hx, hce, hcv, hcl, hW₂, hsm, hL⟩
  · obtain ⟨⟨v, rfl⟩, hW₂, e2, q2, q3, q4, q5, q6⟩ := id hfe
    have e3 : s₂ = ({ (U.calling g mk a).setFrames s₂.frames with heap := s₂.heap, slotsUsed := s₂.slotsUsed } : State).setVm s₂.vm := by
      have : s₂ = ({ s₂ with vm := (U.calling g mk a).vm } : State).setVm s₂.vm := rfl
      rw [e2] at this
      exact this
    obtain ⟨c₂, i₂, len₂, hc₂, hd₂, hf₂⟩ := hend
    have hW' : U.WarmedH s₂.vm := hW₂
    have hcc : c₂ = c := by
      have h1 : s₂.code? g.method = U.code? g.method := by
        rw [State.code?_eq, State.code?_eq, hW'.alike.method?]
      exact Option.some.inj (hc₂.symm.trans (h1.trans h.code))
    subst hcc
    have hlen : len₂ = len := by rw [hdg] at hd₂; cases hd₂; rfl
    subst hlen
    have hs₂ : s₂ = (({ U with heap := s₂.heap, slotsUsed := s₂.slotsUsed } : State).setVm s₂.vm).setTop { g with pc := g.pc + len₂, stack := v.toList ++ g.stack } := by
      refine e3.trans ?_
      rw [hf₂, State.calling_eq h.top, State.setFrames_setFrames, State.setTop_of_frames _ hr', hr]
      rfl
    have hsame : U.sameButNew ({ U with heap := s₂.heap, slotsUsed := s₂.slotsUsed } : State) L mc ms := by
      refine ⟨?_, q2, q3, q4, q5, q6⟩
      obtain ⟨t, ht, -⟩ := State.frames_cons hr
      show ({ U with heap := s₂.heap, slotsUsed := s₂.slotsUsed } : State) = { U.setFrames U.frames with heap := s₂.heap, slotsUsed := s₂.slotsUsed }
      rw [State.setFrames_self ht]
    subst hg
    refine Or.inl ⟨v, ⟨(({ U with heap := s₂.heap, slotsUsed := s₂.slotsUsed } : State).setVm s₂.vm), Ls ++ L, c0 + mc, s0 + ms⟩,
      ⟨X.admits, X.cas, X.clock, X.frames, X.room, X.hears, X.method, X.code, (X.here.setHeapUsed s₂.heap s₂.slotsUsed).setVm hW'.alike, X.tail, State.WarmedH.trans X.warmed hW', X.limits, X.bytes, X.same.trans (hsame.setVm s.vm)⟩,
      ⟨g, mk, s₂, L, rfl, rfl, hqc, rfl, hL, rfl, rfl⟩, ?_⟩
    show Steps p.tables e below _ ((({ U with heap := s₂.heap, slotsUsed := s₂.slotsUsed } : State).setVm s₂.vm).setTop { g with pc := g.pc + len₂, stack := v.toList ++ g.stack })
    rw [← hs₂]
    exact hsteps
  · obtain ⟨e2, q2, q3, q4, q5, q6⟩ := id hsm
    have e3 : s₂ = ({ (U.calling g mk a).setFrames s₂.frames with heap := s₂.heap, slotsUsed := s₂.slotsUsed } : State).setVm s₂.vm := by
      have : s₂ = ({ s₂ with vm := (U.calling g mk a).vm } : State).setVm s₂.vm := rfl
      rw [e2] at this
      exact this
    have hf₂ : s₂.frames = .throwing q :: .java g :: U.frames.tail := hend
    have hW' : U.WarmedH s₂.vm := hW₂
    have hs₂ : s₂ = ((({ U with heap := s₂.heap, slotsUsed := s₂.slotsUsed } : State).setVm s₂.vm).setTop g).pushFrame (.throwing q) := by
      refine e3.trans ?_
      rw [hf₂, State.calling_eq h.top, State.setFrames_setFrames, State.pushFrame, State.frames_setTop _ hr', State.setTop_of_frames _ hr', State.setFrames_setFrames, hr]
      rfl
    have hsame : U.sameButNew ({ U with heap := s₂.heap, slotsUsed := s₂.slotsUsed } : State) L mc ms := by
      refine ⟨?_, q2, q3, q4, q5, q6⟩
      obtain ⟨t, ht, -⟩ := State.frames_cons hr
      show ({ U with heap := s₂.heap, slotsUsed := s₂.slotsUsed } : State) = { U.setFrames U.frames with heap := s₂.heap, slotsUsed := s₂.slotsUsed }
      rw [State.setFrames_self ht]
    subst hg
    refine Or.inr ⟨q, ⟨(({ U with heap := s₂.heap, slotsUsed := s₂.slotsUsed } : State).setVm s₂.vm), Ls ++ L, c0 + mc, s0 + ms⟩,
      ⟨X.admits, X.cas, X.clock, X.frames, X.room, X.hears, X.method, X.code, (X.here.setHeapUsed s₂.heap s₂.slotsUsed).setVm hW'.alike, X.tail, State.WarmedH.trans X.warmed hW', X.limits, X.bytes, X.same.trans (hsame.setVm s.vm)⟩,
      ⟨g, mk, s₂, L, E, ce, rfl, rfl, hx, hce, hcv, hcl, rfl, hL, rfl, rfl⟩, ?_⟩
    show Steps p.tables e below _ (((({ U with heap := s₂.heap, slotsUsed := s₂.slotsUsed } : State).setVm s₂.vm).setTop g).pushFrame (.throwing q))
    rw [← hs₂]
    exact hsteps
end Payer
section Calls
variable {p : Program} {l : Launch} {e : Env} {R : Room} {s : State} {m : MethodId} {args : Array Value} {below : List Frame} {meth : Method} {c : Code} {T : State} {locs : List Loc} {cells slots : Nat}
theorem vx_callV (X : Stand p l e R s m args below meth c T locs cells slots) (hexec : p.tables.exec = Jvm.exec) {own C : String} {index : Nat} {y : MethodName} {bytes : ByteArray} {maxL : Nat} {ret : Option FieldType}
    (hown : s.vm.findClass own = some m.cls) (hlink : (Cond.methodLink own index y).before args s = true) (hinst : (Cond.instanceMethod y).before args s = true) (hsel : (Cond.selects C y y).before args s = true)
    (hcode : (Cond.code y bytes maxL ret).before args s = true) (hy : y.cls ≠ "java/lang/invoke/MethodHandle" ∧ y.cls ≠ "java/lang/invoke/VarHandle")
    {W9 : Nat} {Pre : Pt → Array Value → Prop} {Post : Pt → Array Value → Option Value → Pt → Prop} {PostX : Pt → Array Value → Addr → Pt → Prop} (hK : vx_Back l R p e below s args y 3 W9 Pre Post PostX)
    {b : Addr} {cellB : Cell} (hcell : T.heap[b]? = some cellB) (hobj : cellB.vm.isStatics = false) (hcls : s.vm.findClass C = some cellB.cls)
    {g : JFrame} (hg : g.method = m) (hsize : g.locals.size = c.maxLocals) {argsL rest : List Value} (hlen : ∀ sig, parseMethodDescriptor y.desc = some sig → argsL.length = sig.parameters.length)
    (hstack : g.stack = argsL.reverse ++ .ref b :: rest) (hW : 2 * g.monitorRoom + (rest.map fun v => v.category).sum ≤ W9) (hdg : decode c.code g.pc = .ok (.invokevirtual index, 3))
    (hpre : ∀ vm₁, s.WarmedH vm₁ → Pre ⟨T.setVm vm₁, locs, cells, slots⟩ (Value.ref b :: argsL).toArray) :
    (∃ (v : Option Value) (vm₁ : Vm) (B : Pt), s.WarmedH vm₁ ∧ Stand p l e R s m args below meth c B.U B.locs B.cells B.slots ∧ Post ⟨T.setVm vm₁, locs, cells, slots⟩ (Value.ref b :: argsL).toArray v B ∧
      ∀ target, Steps p.tables e below (B.U.setTop { g with pc := g.pc + 3, stack := v.toList ++ rest }) target → Steps p.tables e below (T.setTop g) target) ∨
    (∃ (q : Addr) (vm₁ : Vm) (B : Pt), s.WarmedH vm₁ ∧ Stand p l e R s m args below meth c B.U B.locs B.cells B.slots ∧ PostX ⟨T.setVm vm₁, locs, cells, slots⟩ (Value.ref b :: argsL).toArray q B ∧
      Steps p.tables e below (T.setTop g) ((B.U.setTop { g with stack := rest }).pushFrame (.throwing q))) := by
  obtain ⟨mk, methM, hnamed, hmethM, hstM, habM⟩ := Cond.instanceMethod_spec hinst
  obtain ⟨methM', cM, hmethM', -, -, -, -, -, -, hsigM⟩ := Cond.code_spec hnamed hcode
  cases hmethM.symm.trans hmethM'
  obtain ⟨c2, r2, m2, q1, q2, q3, q4, kP, hkP, hkPi⟩ := Cond.selects_spec hsel
  cases hcls.symm.trans q1
  cases (State.methodFound?_of_named hnamed hy).symm.trans q2
  cases hnamed.symm.trans q3
  have hselP : selectMethod e.platform s.vm cellB.cls mk = .method mk := by rw [Launch.admits_selectMethod X.admits]; exact q4
  obtain ⟨vm₁, X₁, hstep₁⟩ := X.invokevirtual hexec hown hlink hnamed hmethM hstM hkP hkPi hy (a := b) (cell := cellB) hcell
    (fun z h => by rw [h] at hobj; cases hobj) hselP hmethM habM hkP hkPi (g := g) hg (argsL := argsL) (rest := rest) (hlen _ hsigM) hstack hdg
  rcases hK m meth c ⟨T.setVm vm₁, locs, cells, slots⟩ { g with stack := rest } (.invokevirtual index) mk (Value.ref b :: argsL).toArray X₁ hg hsize hdg hW (X₁.named hnamed) (hpre vm₁ X₁.warmed) with ⟨v, B, X', hpost, hsteps⟩ | ⟨q, B, X', hpost, hsteps⟩
  · exact Or.inl ⟨v, vm₁, B, X₁.warmed, X', hpost, fun target h => hstep₁ _ fun acts => by rw [doInvoke_state]; exact hsteps.trans h⟩
  · exact Or.inr ⟨q, vm₁, B, X₁.warmed, X', hpost, hstep₁ _ fun acts => by rw [doInvoke_state]; exact hsteps⟩
theorem vx_callS (X : Stand p l e R s m args below meth c T locs cells slots) (hexec : p.tables.exec = Jvm.exec) {own : String} {index : Nat} {y : MethodName} {bytes : ByteArray} {maxL : Nat} {ret : Option FieldType}
    (hown : s.vm.findClass own = some m.cls) (hlink : (Cond.methodLink own index y).before args s = true) (hstat : (Cond.static y).before args s = true) (hinit : (Cond.initialized y.cls).before args s = true)
    (hcode : (Cond.code y bytes maxL ret).before args s = true) (hy : y.cls ≠ "java/lang/invoke/MethodHandle" ∧ y.cls ≠ "java/lang/invoke/VarHandle")
    {W9 : Nat} {Pre : Pt → Array Value → Prop} {Post : Pt → Array Value → Option Value → Pt → Prop} {PostX : Pt → Array Value → Addr → Pt → Prop} (hK : vx_Back l R p e below s args y 3 W9 Pre Post PostX)
    {g : JFrame} (hg : g.method = m) (hsize : g.locals.size = c.maxLocals) {argsL rest : List Value} (hlen : ∀ sig, parseMethodDescriptor y.desc = some sig → argsL.length = sig.parameters.length)
    (hstack : g.stack = argsL.reverse ++ rest) (hW : 2 * g.monitorRoom + (rest.map fun v => v.category).sum ≤ W9) (hdg : decode c.code g.pc = .ok (.invokestatic index, 3))
    (hpre : ∀ vm₁, s.WarmedH vm₁ → Pre ⟨T.setVm vm₁, locs, cells, slots⟩ argsL.toArray) :
    (∃ (v : Option Value) (vm₁ : Vm) (B : Pt), s.WarmedH vm₁ ∧ Stand p l e R s m args below meth c B.U B.locs B.cells B.slots ∧ Post ⟨T.setVm vm₁, locs, cells, slots⟩ argsL.toArray v B ∧
      ∀ target, Steps p.tables e below (B.U.setTop { g with pc := g.pc + 3, stack := v.toList ++ rest }) target → Steps p.tables e below (T.setTop g) target) ∨
    (∃ (q : Addr) (vm₁ : Vm) (B : Pt), s.WarmedH vm₁ ∧ Stand p l e R s m args below meth c B.U B.locs B.cells B.slots ∧ PostX ⟨T.setVm vm₁, locs, cells, slots⟩ argsL.toArray q B ∧
      Steps p.tables e below (T.setTop g) ((B.U.setTop { g with stack := rest }).pushFrame (.throwing q))) := by
  obtain ⟨mk, hnamed⟩ := Cond.code_named hcode
  obtain ⟨methM, cM, hmethM, -, -, -, -, -, -, hsigM⟩ := Cond.code_spec hnamed hcode
  have hstatic : methM.isStatic = true := Cond.static_spec hnamed hmethM hstat
  obtain ⟨kP, hkP, -⟩ := className_of_methodNamed hnamed
  have hinitP : kP.init = .initialized := Cond.initialized_spec (findClass_of_methodNamed hnamed) hkP hinit
  obtain ⟨vm₁, X₁, hstep₁⟩ := X.invokestatic hexec hown hlink hnamed hmethM hstatic hkP hinitP hy (g := g) hg (argsL := argsL) (rest := rest) (hlen _ hsigM) hstack hdg
  rcases hK m meth c ⟨T.setVm vm₁, locs, cells, slots⟩ { g with stack := rest } (.invokestatic index) mk argsL.toArray X₁ hg hsize hdg hW (X₁.named hnamed) (hpre vm₁ X₁.warmed) with ⟨v, B, X', hpost, hsteps⟩ | ⟨q, B, X', hpost, hsteps⟩
  · exact Or.inl ⟨v, vm₁, B, X₁.warmed, X', hpost, fun target h => hstep₁ _ fun acts => by rw [doInvoke_state]; exact hsteps.trans h⟩
  · exact Or.inr ⟨q, vm₁, B, X₁.warmed, X', hpost, hstep₁ _ fun acts => by rw [doInvoke_state]; exact hsteps⟩
end Calls
theorem vx_cls {s : State} {T : State} {vm₁ : Vm} {E : String} {k : ClassId} (hW : s.WarmedH vm₁) (h : (T.setVm vm₁).vm.findClass E = some k) : s.vm.findClass E = some k := by
  have h1 : vm₁.findClass E = some k := h
  rw [hW.alike.findClass] at h1
  exact h1
/-- the method's frame g, with q thrown over it -/
def vx_W (p : Program) (l : Launch) (e : Env) (R : Room) (s : State) (m : MethodId) (args : Array Value) (below : List Frame) (meth : Method) (c : Code) (H : Heap) (locs : List Loc) (cells slots : Nat) (Q : State → Prop) (g : JFrame) (q : Addr) : Prop :=
  ∀ T : State, T.heap = H → Stand p l e R s m args below meth c T locs cells slots → ∃ t, Steps p.tables e below ((T.setTop g).pushFrame (.throwing q)) t ∧ Q t
def vx_Run (p : Program) (l : Launch) (e : Env) (R : Room) (s : State) (m : MethodId) (args : Array Value) (below : List Frame) (meth : Method) (c : Code) (H : Heap) (locs : List Loc) (cells slots mc ms : Nat) (g : JFrame) (rest : List Value) (Qa : State → Outcome → State → Prop) (XC : String → State → State → Prop) (free : Addr → Prop) : Prop :=
  ∀ T : State, T.heap = H → Stand p l e R s m args below meth c T locs cells slots →
    (∃ (v : Option Value) (st₀ t T' : State) (L : List Loc), st₀.heap = H ∧ Stand p l e R s m args below meth c T' (locs ++ L) (cells + mc) (slots + ms) ∧ (∀ q ∈ L, free q.base) ∧ T'.heap = t.heap ∧ T'.vm = t.vm ∧ Qa st₀ (.returned v) t ∧
      Goes p e below T g T' { g with pc := g.pc + 3, stack := v.toList ++ rest }) ∨
    (∃ (q : Addr) (st₀ t T' : State) (L : List Loc) (E : String) (ce : Cell), st₀.heap = H ∧ Stand p l e R s m args below meth c T' (locs ++ L) (cells + mc) (slots + ms) ∧ (∀ z ∈ L, free z.base) ∧ T'.heap = t.heap ∧ T'.vm = t.vm ∧ XC E st₀ t ∧ t.heap[q]? = some ce ∧ ce.vm = .none ∧ s.vm.findClass E = some ce.cls ∧
      Steps p.tables e below (T.setTop g) ((T'.setTop { g with stack := rest }).pushFrame (.throwing q)))
def vx_X {S : Type} (px : S → Prop) (B : String → S → State → Prop) (A : Nat → Prop) : String → State → State → Prop := fun E st t => ∃ u : S, px u ∧ B E u t ∧ va_F A st t
section Runs
variable {p : Program} {l : Launch} {e : Env} {R : Room} {s : State} {m : MethodId} {args : Array Value} {below : List Frame} {meth : Method} {c : Code} {H : Heap} {locs : List Loc} {cells slots : Nat}
variable {y : MethodName} {bytes cc : ByteArray} {maxL nL mc ms n index : Nat} {ret : Option FieldType} {ws : List Cond} {rm : Room} {Pc : Array Value → State → Prop} {Qc : Array Value → State → Outcome → State → Prop} {XC : String → State → State → Prop} {free : Addr → Prop} {Ts : List Cond} {own C : String} {b : Addr} {As rest : List Value} {g : JFrame}
theorem vx_callBack (cb : CallB R s args own index y bytes maxL ret ws rm mc ms n) (hM : vx_Met l y ws rm Pc Qc XC mc ms free) (hbl : FrameBlind Pc) : vx_Back l R p e below s args y 3 8 (PreOf R mc ms Pc) (PostOf Qc mc ms free) (vx_Post XC mc ms free) := by
  obtain ⟨hrc, hrs, hfr, hlo, hws, hcw, -, hini, -⟩ := cb
  exact vx_back (bytes := bytes) (maxL := maxL) (ret := ret) hM hbl hrc hrs hfr hlo hws hcw (fun a' U hW => word_at hW (Or.inl (by first | rfl | simp [Cond.onTables, Cond.keeps, Cond.steady])) hini)
theorem vx_runV (S : CallFix p m c cc nL s args Ts own) (hM : vx_Met l y ws rm Pc Qc XC mc ms free) (cw : CallW R s args own C index y bytes maxL ret ws rm mc ms n) (hp : PreV s H C b Pc As)
    (hg : g.method = m) (hn : As.length = n) (hsize : g.locals.size = nL) (hstack : g.stack = As.reverse ++ .ref b :: rest) (hW : 2 * g.monitorRoom + (rest.map fun v => v.category).sum ≤ 8) (hdg : decode cc g.pc = .ok (.invokevirtual index, 3)) (hf : cells + mc ≤ R.cells ∧ slots + ms ≤ R.slots) :
    vx_Run p l e R s m args below meth c H locs cells slots mc ms g rest (Qc (Value.ref b :: As).toArray) XC free := by
  have hK : vx_Back l R p e below s args y 3 8 (PreOf R mc ms Pc) (PostOf Qc mc ms free) (vx_Post XC mc ms free) := vx_callBack cw.1 hM hp.1
  obtain ⟨⟨-, -, -, -, -, -, hcode, -, hy, hlen, hl⟩, hin, hse⟩ := cw
  obtain ⟨hx, hb, hml, ho, -⟩ := S
  obtain ⟨-, ⟨cellB, hcB, hoB, hclB⟩, hPc⟩ := hp
  intro T hT X
  rcases vx_callV X hx (C := C) (bytes := bytes) (maxL := maxL) (ret := ret) ho hl hin hse hcode hy hK (by rw [hT]; exact hcB) hoB hclB hg (hsize.trans hml.symm) (argsL := As) (rest := rest) (fun sig h => hn.trans (hlen sig h)) hstack hW (by rw [hb]; exact hdg)
    (fun vm₁ hW₁ => ⟨hf.1, hf.2, hPc (T.setVm vm₁) hT hW₁⟩) with ⟨v, vm₁, ⟨U', l2, c2, s2⟩, hW₁, X', ⟨g', mk, t, L, e1, e2, hq, h1, hL, h2, h3⟩, st⟩ | ⟨q, vm₁, ⟨U', l2, c2, s2⟩, hW₁, X', ⟨g', mk, t, L, E, ce, e1, e2, hq, hce, hcv, hcl, h1, hL, h2, h3⟩, st⟩
  · dsimp only [Pt.U, Pt.locs, Pt.cells, Pt.slots] at X' e1 e2 h1 h2 h3 st
    subst h1; subst h2; subst h3
    exact Or.inl ⟨v, (T.setVm vm₁).calling g' mk (Value.ref b :: As).toArray, t, U', L, hT, X', hL, e1, e2, hq, st⟩
  · dsimp only [Pt.U, Pt.locs, Pt.cells, Pt.slots] at X' e1 e2 h1 h2 h3 st hcl
    subst h1; subst h2; subst h3
    exact Or.inr ⟨q, (T.setVm vm₁).calling g' mk (Value.ref b :: As).toArray, t, U', L, E, ce, hT, X', hL, e1, e2, hq, hce, hcv, vx_cls hW₁ hcl, st⟩
theorem vx_runS (S : CallFix p m c cc nL s args Ts own) (hM : vx_Met l y ws rm Pc Qc XC mc ms free) (cw : CallB R s args own index y bytes maxL ret ws rm mc ms n ∧ (Cond.static y).before args s = true) (hp : PreS s H Pc As)
    (hg : g.method = m) (hn : As.length = n) (hsize : g.locals.size = nL) (hstack : g.stack = As.reverse ++ rest) (hW : 2 * g.monitorRoom + (rest.map fun v => v.category).sum ≤ 8) (hdg : decode cc g.pc = .ok (.invokestatic index, 3)) (hf : cells + mc ≤ R.cells ∧ slots + ms ≤ R.slots) :
    vx_Run p l e R s m args below meth c H locs cells slots mc ms g rest (Qc As.toArray) XC free := by
  have hK : vx_Back l R p e below s args y 3 8 (PreOf R mc ms Pc) (PostOf Qc mc ms free) (vx_Post XC mc ms free) := vx_callBack cw.1 hM hp.1
  obtain ⟨⟨-, -, -, -, -, -, hcode, hini, hy, hlen, hl⟩, hstt⟩ := cw
  obtain ⟨hx, hb, hml, ho, -⟩ := S
  intro T hT X
  rcases vx_callS X hx (bytes := bytes) (maxL := maxL) (ret := ret) ho hl hstt hini hcode hy hK hg (hsize.trans hml.symm) (argsL := As) (rest := rest) (fun sig h => hn.trans (hlen sig h)) hstack hW (by rw [hb]; exact hdg)
    (fun vm₁ hW₁ => ⟨hf.1, hf.2, hp.2 (T.setVm vm₁) hT hW₁⟩) with ⟨v, vm₁, ⟨U', l2, c2, s2⟩, hW₁, X', ⟨g', mk, t, L, e1, e2, hq, h1, hL, h2, h3⟩, st⟩ | ⟨q, vm₁, ⟨U', l2, c2, s2⟩, hW₁, X', ⟨g', mk, t, L, E, ce, e1, e2, hq, hce, hcv, hcl, h1, hL, h2, h3⟩, st⟩
  · dsimp only [Pt.U, Pt.locs, Pt.cells, Pt.slots] at X' e1 e2 h1 h2 h3 st
    subst h1; subst h2; subst h3
    exact Or.inl ⟨v, (T.setVm vm₁).calling g' mk As.toArray, t, U', L, hT, X', hL, e1, e2, hq, st⟩
  · dsimp only [Pt.U, Pt.locs, Pt.cells, Pt.slots] at X' e1 e2 h1 h2 h3 st hcl
    subst h1; subst h2; subst h3
    exact Or.inr ⟨q, (T.setVm vm₁).calling g' mk As.toArray, t, U', L, E, ce, hT, X', hL, e1, e2, hq, hce, hcv, vx_cls hW₁ hcl, st⟩
end Runs
section Rows
variable {p : Program} {l : Launch} {e : Env} {R : Room} {s : State} {m : MethodId} {args : Array Value} {below : List Frame} {meth : Method} {c : Code} {H : Heap} {locs : List Loc} {cells slots : Nat} {Q : State → Prop}
variable {mc ms : Nat} {free : Addr → Prop} {A0 A1 : Nat → Prop} {H0 : Heap} {a : Array Value} {pc : Nat} {ls : Array Slot} {st0 rest : List Value}
theorem vx_keep {st₀ t T' : State} {L : List Loc} (h0 : st₀.heap = H) (e1 : T'.heap = t.heap) (hS : va_S A0 H0 H locs) (hA : ∀ q, q < H.size → A1 q → A0 q) (hf : ∀ q, free q → A0 q) (hL : ∀ q ∈ L, free q.base) (hF : va_F A1 st₀ t) :
    H.size ≤ T'.heap.size ∧ (∀ q : Nat, q < H.size → ¬ A1 q → T'.heap[q]? = H[q]?) ∧ va_S A0 H0 T'.heap (locs ++ L) := by
  obtain ⟨hz, hk⟩ := hF
  rw [h0] at hz hk
  exact ⟨by rw [e1]; exact hz, fun q h1 h2 => by rw [e1]; exact hk q h1 h2,
    ⟨Nat.le_trans hS.1 (by rw [e1]; exact hz), fun q h1 h2 => by rw [e1, hk q (Nat.lt_of_lt_of_le h1 hS.1) (fun z => h2 (hA q (Nat.lt_of_lt_of_le h1 hS.1) z))]; exact hS.2.1 q h1 h2, fun q hq => by
      rcases List.mem_append.mp hq with h | h
      · exact hS.2.2 q h
      · exact hf _ (hL q h)⟩⟩
theorem vx_calli {S SX : Type} {post : Int32 → S → Prop} {px : SX → Prop} {B : S → State → Prop} {BX : String → SX → State → Prop} {AX : Nat → Prop} (hr : vx_Run p l e R s m args below meth c H locs cells slots mc ms (F0 m pc ls st0) rest (va_Qi post B A1 a) (vx_X px BX AX) free) (hS : va_S A0 H0 H locs) (hA : ∀ q, q < H.size → A1 q → A0 q) (hf : ∀ q, free q → A0 q) (hAX : ∀ q, q < H.size → AX q → A0 q)
    (kx : ∀ (E : String) (ce : Cell) (q9 : Addr) (u : SX) (t : State) (H1 : Heap) (locs1 : List Loc), t.heap = H1 → s.vm.Alike t.vm → px u → BX E u t → H.size ≤ H1.size → (∀ q : Nat, q < H.size → ¬ AX q → H1[q]? = H[q]?) → va_S A0 H0 H1 locs1 → H1[q9]? = some ce → ce.vm = .none → s.vm.findClass E = some ce.cls → vx_W p l e R s m args below meth c H1 locs1 (cells + mc) (slots + ms) Q (F0 m pc ls rest) q9)
    (kk : ∀ (r : Int32) (u : S) (t : State) (H1 : Heap) (locs1 : List Loc), t.heap = H1 → s.vm.Alike t.vm → post r u → B u t → H.size ≤ H1.size → (∀ q : Nat, q < H.size → ¬ A1 q → H1[q]? = H[q]?) → va_S A0 H0 H1 locs1 → W p l e R s m args below meth c H1 locs1 (cells + mc) (slots + ms) Q (F0 m (pc + 3) ls (.int r :: rest))) : W p l e R s m args below meth c H locs cells slots Q (F0 m pc ls st0) := by
  intro T hT X
  rcases hr T hT X with ⟨v, st₀, t, T', L, h0, X', hL, e1, e2, ⟨⟨r, u, hv, hp, hb⟩, hF⟩, st⟩ | ⟨q, st₀, t, T', L, E, ce, h0, X', hL, e1, e2, ⟨u, hp, hb, hF⟩, hce, hcv, hcl, st⟩
  · cases hv
    obtain ⟨k1, k2, k3⟩ := vx_keep h0 e1 hS hA hf hL hF
    obtain ⟨t2, a1, b1⟩ := kk r u t T'.heap (locs ++ L) e1.symm (by rw [← e2]; exact X'.warmed.alike) hp hb k1 k2 k3 T' rfl X'
    exact ⟨t2, st t2 a1, b1⟩
  · obtain ⟨k1, k2, k3⟩ := vx_keep h0 e1 hS hAX hf hL hF
    obtain ⟨t2, a1, b1⟩ := kx E ce q u t T'.heap (locs ++ L) e1.symm (by rw [← e2]; exact X'.warmed.alike) hp hb k1 k2 k3 (by rw [e1]; exact hce) hcv hcl T' rfl X'
    exact ⟨t2, st.trans a1, b1⟩
theorem vx_calll {S SX : Type} {post : Int64 → S → Prop} {px : SX → Prop} {B : S → State → Prop} {BX : String → SX → State → Prop} {AX : Nat → Prop} (hr : vx_Run p l e R s m args below meth c H locs cells slots mc ms (F0 m pc ls st0) rest (va_Ql post B A1 a) (vx_X px BX AX) free) (hS : va_S A0 H0 H locs) (hA : ∀ q, q < H.size → A1 q → A0 q) (hf : ∀ q, free q → A0 q) (hAX : ∀ q, q < H.size → AX q → A0 q)
    (kx : ∀ (E : String) (ce : Cell) (q9 : Addr) (u : SX) (t : State) (H1 : Heap) (locs1 : List Loc), t.heap = H1 → s.vm.Alike t.vm → px u → BX E u t → H.size ≤ H1.size → (∀ q : Nat, q < H.size → ¬ AX q → H1[q]? = H[q]?) → va_S A0 H0 H1 locs1 → H1[q9]? = some ce → ce.vm = .none → s.vm.findClass E = some ce.cls → vx_W p l e R s m args below meth c H1 locs1 (cells + mc) (slots + ms) Q (F0 m pc ls rest) q9)
    (kk : ∀ (r : Int64) (u : S) (t : State) (H1 : Heap) (locs1 : List Loc), t.heap = H1 → s.vm.Alike t.vm → post r u → B u t → H.size ≤ H1.size → (∀ q : Nat, q < H.size → ¬ A1 q → H1[q]? = H[q]?) → va_S A0 H0 H1 locs1 → W p l e R s m args below meth c H1 locs1 (cells + mc) (slots + ms) Q (F0 m (pc + 3) ls (.long r :: rest))) : W p l e R s m args below meth c H locs cells slots Q (F0 m pc ls st0) := by
  intro T hT X
  rcases hr T hT X with ⟨v, st₀, t, T', L, h0, X', hL, e1, e2, ⟨⟨r, u, hv, hp, hb⟩, hF⟩, st⟩ | ⟨q, st₀, t, T', L, E, ce, h0, X', hL, e1, e2, ⟨u, hp, hb, hF⟩, hce, hcv, hcl, st⟩
  · cases hv
    obtain ⟨k1, k2, k3⟩ := vx_keep h0 e1 hS hA hf hL hF
    obtain ⟨t2, a1, b1⟩ := kk r u t T'.heap (locs ++ L) e1.symm (by rw [← e2]; exact X'.warmed.alike) hp hb k1 k2 k3 T' rfl X'
    exact ⟨t2, st t2 a1, b1⟩
  · obtain ⟨k1, k2, k3⟩ := vx_keep h0 e1 hS hAX hf hL hF
    obtain ⟨t2, a1, b1⟩ := kx E ce q u t T'.heap (locs ++ L) e1.symm (by rw [← e2]; exact X'.warmed.alike) hp hb k1 k2 k3 (by rw [e1]; exact hce) hcv hcl T' rfl X'
    exact ⟨t2, st.trans a1, b1⟩
theorem vx_callf {S SX : Type} {post : UInt32 → S → Prop} {px : SX → Prop} {B : S → State → Prop} {BX : String → SX → State → Prop} {AX : Nat → Prop} (hr : vx_Run p l e R s m args below meth c H locs cells slots mc ms (F0 m pc ls st0) rest (va_Qf post B A1 a) (vx_X px BX AX) free) (hS : va_S A0 H0 H locs) (hA : ∀ q, q < H.size → A1 q → A0 q) (hf : ∀ q, free q → A0 q) (hAX : ∀ q, q < H.size → AX q → A0 q)
    (kx : ∀ (E : String) (ce : Cell) (q9 : Addr) (u : SX) (t : State) (H1 : Heap) (locs1 : List Loc), t.heap = H1 → s.vm.Alike t.vm → px u → BX E u t → H.size ≤ H1.size → (∀ q : Nat, q < H.size → ¬ AX q → H1[q]? = H[q]?) → va_S A0 H0 H1 locs1 → H1[q9]? = some ce → ce.vm = .none → s.vm.findClass E = some ce.cls → vx_W p l e R s m args below meth c H1 locs1 (cells + mc) (slots + ms) Q (F0 m pc ls rest) q9)
    (kk : ∀ (r : UInt32) (u : S) (t : State) (H1 : Heap) (locs1 : List Loc), t.heap = H1 → s.vm.Alike t.vm → post r u → B u t → H.size ≤ H1.size → (∀ q : Nat, q < H.size → ¬ A1 q → H1[q]? = H[q]?) → va_S A0 H0 H1 locs1 → W p l e R s m args below meth c H1 locs1 (cells + mc) (slots + ms) Q (F0 m (pc + 3) ls (.float r :: rest))) : W p l e R s m args below meth c H locs cells slots Q (F0 m pc ls st0) := by
  intro T hT X
  rcases hr T hT X with ⟨v, st₀, t, T', L, h0, X', hL, e1, e2, ⟨⟨r, u, hv, hp, hb⟩, hF⟩, st⟩ | ⟨q, st₀, t, T', L, E, ce, h0, X', hL, e1, e2, ⟨u, hp, hb, hF⟩, hce, hcv, hcl, st⟩
  · cases hv
    obtain ⟨k1, k2, k3⟩ := vx_keep h0 e1 hS hA hf hL hF
    obtain ⟨t2, a1, b1⟩ := kk r u t T'.heap (locs ++ L) e1.symm (by rw [← e2]; exact X'.warmed.alike) hp hb k1 k2 k3 T' rfl X'
    exact ⟨t2, st t2 a1, b1⟩
  · obtain ⟨k1, k2, k3⟩ := vx_keep h0 e1 hS hAX hf hL hF
    obtain ⟨t2, a1, b1⟩ := kx E ce q u t T'.heap (locs ++ L) e1.symm (by rw [← e2]; exact X'.warmed.alike) hp hb k1 k2 k3 (by rw [e1]; exact hce) hcv hcl T' rfl X'
    exact ⟨t2, st.trans a1, b1⟩
theorem vx_calld {S SX : Type} {post : UInt64 → S → Prop} {px : SX → Prop} {B : S → State → Prop} {BX : String → SX → State → Prop} {AX : Nat → Prop} (hr : vx_Run p l e R s m args below meth c H locs cells slots mc ms (F0 m pc ls st0) rest (va_Qd post B A1 a) (vx_X px BX AX) free) (hS : va_S A0 H0 H locs) (hA : ∀ q, q < H.size → A1 q → A0 q) (hf : ∀ q, free q → A0 q) (hAX : ∀ q, q < H.size → AX q → A0 q)
    (kx : ∀ (E : String) (ce : Cell) (q9 : Addr) (u : SX) (t : State) (H1 : Heap) (locs1 : List Loc), t.heap = H1 → s.vm.Alike t.vm → px u → BX E u t → H.size ≤ H1.size → (∀ q : Nat, q < H.size → ¬ AX q → H1[q]? = H[q]?) → va_S A0 H0 H1 locs1 → H1[q9]? = some ce → ce.vm = .none → s.vm.findClass E = some ce.cls → vx_W p l e R s m args below meth c H1 locs1 (cells + mc) (slots + ms) Q (F0 m pc ls rest) q9)
    (kk : ∀ (r : UInt64) (u : S) (t : State) (H1 : Heap) (locs1 : List Loc), t.heap = H1 → s.vm.Alike t.vm → post r u → B u t → H.size ≤ H1.size → (∀ q : Nat, q < H.size → ¬ A1 q → H1[q]? = H[q]?) → va_S A0 H0 H1 locs1 → W p l e R s m args below meth c H1 locs1 (cells + mc) (slots + ms) Q (F0 m (pc + 3) ls (.double r :: rest))) : W p l e R s m args below meth c H locs cells slots Q (F0 m pc ls st0) := by
  intro T hT X
  rcases hr T hT X with ⟨v, st₀, t, T', L, h0, X', hL, e1, e2, ⟨⟨r, u, hv, hp, hb⟩, hF⟩, st⟩ | ⟨q, st₀, t, T', L, E, ce, h0, X', hL, e1, e2, ⟨u, hp, hb, hF⟩, hce, hcv, hcl, st⟩
  · cases hv
    obtain ⟨k1, k2, k3⟩ := vx_keep h0 e1 hS hA hf hL hF
    obtain ⟨t2, a1, b1⟩ := kk r u t T'.heap (locs ++ L) e1.symm (by rw [← e2]; exact X'.warmed.alike) hp hb k1 k2 k3 T' rfl X'
    exact ⟨t2, st t2 a1, b1⟩
  · obtain ⟨k1, k2, k3⟩ := vx_keep h0 e1 hS hAX hf hL hF
    obtain ⟨t2, a1, b1⟩ := kx E ce q u t T'.heap (locs ++ L) e1.symm (by rw [← e2]; exact X'.warmed.alike) hp hb k1 k2 k3 (by rw [e1]; exact hce) hcv hcl T' rfl X'
    exact ⟨t2, st.trans a1, b1⟩
theorem vx_callv {S SX : Type} {post : S → Prop} {px : SX → Prop} {B : S → State → Prop} {BX : String → SX → State → Prop} {AX : Nat → Prop} (hr : vx_Run p l e R s m args below meth c H locs cells slots mc ms (F0 m pc ls st0) rest (va_Qv post B A1 a) (vx_X px BX AX) free) (hS : va_S A0 H0 H locs) (hA : ∀ q, q < H.size → A1 q → A0 q) (hf : ∀ q, free q → A0 q) (hAX : ∀ q, q < H.size → AX q → A0 q)
    (kx : ∀ (E : String) (ce : Cell) (q9 : Addr) (u : SX) (t : State) (H1 : Heap) (locs1 : List Loc), t.heap = H1 → s.vm.Alike t.vm → px u → BX E u t → H.size ≤ H1.size → (∀ q : Nat, q < H.size → ¬ AX q → H1[q]? = H[q]?) → va_S A0 H0 H1 locs1 → H1[q9]? = some ce → ce.vm = .none → s.vm.findClass E = some ce.cls → vx_W p l e R s m args below meth c H1 locs1 (cells + mc) (slots + ms) Q (F0 m pc ls rest) q9)
    (kk : ∀ (u : S) (t : State) (H1 : Heap) (locs1 : List Loc), t.heap = H1 → s.vm.Alike t.vm → post u → B u t → H.size ≤ H1.size → (∀ q : Nat, q < H.size → ¬ A1 q → H1[q]? = H[q]?) → va_S A0 H0 H1 locs1 → W p l e R s m args below meth c H1 locs1 (cells + mc) (slots + ms) Q (F0 m (pc + 3) ls (rest))) : W p l e R s m args below meth c H locs cells slots Q (F0 m pc ls st0) := by
  intro T hT X
  rcases hr T hT X with ⟨v, st₀, t, T', L, h0, X', hL, e1, e2, ⟨⟨u, hv, hp, hb⟩, hF⟩, st⟩ | ⟨q, st₀, t, T', L, E, ce, h0, X', hL, e1, e2, ⟨u, hp, hb, hF⟩, hce, hcv, hcl, st⟩
  · cases hv
    obtain ⟨k1, k2, k3⟩ := vx_keep h0 e1 hS hA hf hL hF
    obtain ⟨t2, a1, b1⟩ := kk u t T'.heap (locs ++ L) e1.symm (by rw [← e2]; exact X'.warmed.alike) hp hb k1 k2 k3 T' rfl X'
    exact ⟨t2, st t2 a1, b1⟩
  · obtain ⟨k1, k2, k3⟩ := vx_keep h0 e1 hS hAX hf hL hF
    obtain ⟨t2, a1, b1⟩ := kx E ce q u t T'.heap (locs ++ L) e1.symm (by rw [← e2]; exact X'.warmed.alike) hp hb k1 k2 k3 (by rw [e1]; exact hce) hcv hcl T' rfl X'
    exact ⟨t2, st.trans a1, b1⟩
/-- caught by the row x of this method's table; the rows ahead don't take it -/
theorem vx_catch {own name : String} {E : String} {ce : Cell} {q : Addr} (hown : s.vm.findClass own = some m.cls) (pre : List ExceptionTableEntry) (x : ExceptionTableEntry) (suf : List ExceptionTableEntry) (hsplit : c.exceptionTable.toList = pre ++ x :: suf)
    (hpass : ∀ z ∈ pre, covers z pc = false ∨ (z.catchType ≠ 0 ∧ ∃ nm : String, (Cond.classLink own z.catchType nm).before args s = true ∧ va_Nc E nm s)) (hx : covers x pc = true) (h0 : x.catchType ≠ 0)
    (hlink : (Cond.classLink own x.catchType name).before args s = true) (hcast : (Cond.castable E name).before args s = true) (hcell : H[q]? = some ce) (hv : ce.vm = .none) (hcl : s.vm.findClass E = some ce.cls)
    (kk : W p l e R s m args below meth c H locs cells slots Q (F0 m x.handlerPc ls [.ref q])) : vx_W p l e R s m args below meth c H locs cells slots Q (F0 m pc ls rest) q := by
  intro T hT X
  have hpl : e.platform.magicAccessors = ({} : Platform).magicAccessors := by rw [X.admits.platform]
  obtain ⟨c3, c4, hc3, hc4, hasg⟩ := Cond.castable_spec hcast
  cases Option.some.inj (hc3.symm.trans hcl)
  obtain ⟨c5, hc5, hcl5⟩ := Cond.classLink_spec hown hlink e.platform hpl
  cases Option.some.inj (hc4.symm.trans hc5)
  obtain ⟨vm', X', st⟩ := X.thenCaughtThrough q (g := F0 m pc ls rest) rfl (Steps.refl _) (by rw [hT]; exact hcell) (by rw [hv]; rfl) (by obtain ⟨k9, h9, -⟩ := Vm.findClass_spec hcl; exact ⟨k9, h9⟩) pre x suf hsplit
    (fun z hz => by
      rcases hpass z hz with h | ⟨hz0, nm, hl1, hn1⟩
      · exact Or.inl h
      · obtain ⟨c6, hc6, hcl6⟩ := Cond.classLink_spec hown hl1 e.platform hpl
        obtain ⟨a8, b8, h1, h2, h3⟩ := hn1
        cases Option.some.inj (h1.symm.trans hcl)
        cases Option.some.inj (h2.symm.trans hc6)
        exact Or.inr ⟨hz0, _, hcl6, h3⟩) hx (Or.inr ⟨h0, c4, hcl5, hasg⟩)
  obtain ⟨t, a1, b1⟩ := kk (T.setVm vm') hT X'
  exact ⟨t, st.trans a1, b1⟩
end Rows
section Ends
variable {p : Program} {l : Launch} {e : Env} {R : Room} {s : State} {m : MethodId} {args : Array Value} {below : List Frame} {meth : Method} {c : Code} {H : Heap} {locs : List Loc} {cells slots : Nat} {Q : State → Prop}
variable {mc ms : Nat} {free : Addr → Prop} {A0 A1 : Nat → Prop} {H0 : Heap} {a : Array Value} {ls : Array Slot} {st0 rest : List Value}
variable {Qc : Array Value → State → Outcome → State → Prop} {XC : String → State → State → Prop}
/-- what a body that may throw owes at its end -/
def vx_MQ (below : List Frame) (Qc : Array Value → State → Outcome → State → Prop) (XC : String → State → State → Prop) (a : Array Value) (s : State) (mc ms : Nat) (free : Addr → Prop) : State → Prop := fun t =>
  ∃ o, t.status = .running ∧ Ended t below o ∧ vx_Q Qc XC mc ms free a s o t
theorem vx_ret {g : JFrame} {mc ms : Nat} (k : W p l e R s m args below meth c H locs cells slots (MQ below Qc args s mc ms free) g) : W p l e R s m args below meth c H locs cells slots (vx_MQ below Qc XC args s mc ms free) g := by
  intro T hT X
  obtain ⟨t, a1, o, b1, b2, b3, b4⟩ := k T hT X
  exact ⟨t, a1, o, b1, b2, Or.inl ⟨b3, b4⟩⟩
/-- not caught here: it goes on to the caller -/
theorem vx_widen {g : JFrame} {q : Addr} {k n : Nat} (h1 : cells ≤ k) (h2 : slots ≤ n) (kk : vx_W p l e R s m args below meth c H locs k n Q g q) : vx_W p l e R s m args below meth c H locs cells slots Q g q := fun T hT X => kk T hT (stand_widen X h1 h2)
theorem vx_out {pc : Nat} {E : String} {ce : Cell} {q : Addr} {mc ms : Nat} (hout : ∀ x ∈ c.exceptionTable.toList, covers x pc = false) (hlocks : meth.locks = false) (hcell : H[q]? = some ce) (hv : ce.vm = .none) (hcl : s.vm.findClass E = some ce.cls)
    (hx : ∀ t : State, t.heap = H → s.vm.Alike t.vm → XC E s t) (hf : ∀ z ∈ locs, free z.base) (hc : cells ≤ mc) (hs : slots ≤ ms) :
    vx_W p l e R s m args below meth c H locs cells slots (vx_MQ below Qc XC args s mc ms free) (F0 m pc ls rest) q := by
  intro T hT X
  obtain ⟨st1, hrun, hend, hW, hsm⟩ := X.leaveThrown q (g := F0 m pc ls rest) rfl rfl rfl hout hlocks
  have hcell9 : (T.setFrames (.throwing q :: below)).heap[q]? = some ce := by
    show T.heap[q]? = some ce
    rw [hT]; exact hcell
  exact ⟨_, st1, .threw q, hrun, hend, Or.inr ⟨q, rfl, E, ce, locs, hx _ hT hW.alike, hcell9, hv, hcl, hW, hsm.mono hc hs, hf⟩⟩
theorem vx_frame {U : State} {k n : Nat} (h : s.sameButNew ({ U with vm := s.vm } : State) locs k n) : s.heap.size ≤ U.heap.size ∧ ∀ q : Nat, q < s.heap.size → (∀ z ∈ locs, z.base ≠ q) → U.heap[q]? = s.heap[q]? := by
  obtain ⟨-, h2, -, -, -, h6⟩ := h
  refine ⟨h2, fun q hq hz => ?_⟩
  obtain ⟨c9, e1, e2, e3, e4⟩ := h6 q _ (Array.getElem?_eq_getElem hq)
  have hs : c9.slots = (s.heap[q]).slots := Array.ext_getElem? fun i => e4 i fun hm => hz _ hm rfl
  have h9 : c9 = s.heap[q] := by
    rw [hs] at e2
    exact e2
  have e5 : U.heap[q]? = some c9 := e1
  rw [e5, h9, Array.getElem?_eq_getElem hq]
/-- the words of a throw but the four that speak of the heap -/
def vx_no (w : Cond) : Bool := decide (w ≠ .isRef (.static Bundle.tN "UNASSIGNED_STACK" Bundle.steD)) && decide (w ≠ .isRef (.static Bundle.tN "SUPPRESSED_SENTINEL" Bundle.listD)) && decide (w ≠ .laysStatic Bundle.tN "UNASSIGNED_STACK" Bundle.steD) && decide (w ≠ .laysStatic Bundle.tN "SUPPRESSED_SENTINEL" Bundle.listD)
def vx_at0 (own : String) (ic : Nat) (X : String) (names : List String) : List Cond := (Bundle.ownAtoms0 own ic X names).filter vx_no
def vx_atS (own : String) (ic : Nat) (X : String) (names : List String) : List Cond := (Bundle.ownAtoms own ic X names).filter vx_no
/-- a word that the tables alone decide, or a good one -/
def vx_ot (w : Cond) : Bool := w.onTables || goodWord w
theorem vx_ot_at {args a' : Array Value} {s U : State} {w : Cond} (hW : s.WarmedH U.vm) (hvm : s.vm = U.vm) (hg : vx_ot w = true) (h : w.before args s = true) : w.before a' U = true := by
  simp only [vx_ot, Bool.or_eq_true] at hg
  rcases hg with hg | hg
  · exact va_tabs hg hvm h
  · exact word_at hW (good_of_word hg) h
/-- a list's words: the good ones out of the method's own list, the others by premises of their own -/
theorem vx_hat {args : Array Value} {s : State} {L B : List Cond} (h1 : ∀ w ∈ L.filter goodWord, w.before args s = true) (h2 : ∀ w ∈ L.filter (fun w => !goodWord w), w ∈ B) (h3 : ∀ w ∈ B, w.before args s = true) : ∀ w ∈ L, w.before args s = true := by
  intro w hw
  by_cases g : goodWord w = true
  · exact h1 w (List.mem_filter.mpr ⟨hw, g⟩)
  · refine h3 w (h2 w (List.mem_filter.mpr ⟨hw, ?_⟩))
    show (!goodWord w) = true
    cases hgw : goodWord w
    · rfl
    · exact absurd hgw g
theorem vx_c {args : Array Value} {s : State} {w : Cond} {B : List Cond} (h : w.before args s = true) (t : ∀ w ∈ B, w.before args s = true) : ∀ w' ∈ w :: B, w'.before args s = true := fun w' h' => (List.mem_cons.mp h').elim (fun e => by rw [e]; exact h) (t w')
theorem vx_n {args : Array Value} {s : State} : ∀ w ∈ ([] : List Cond), w.before args s = true := fun _ h => nomatch h
theorem vx_own {args : Array Value} {s : State} {L : List Cond} (h1 : ∀ w ∈ L.filter vx_no, w.before args s = true)
    (hU : (Cond.isRef (.static Bundle.tN "UNASSIGNED_STACK" Bundle.steD)).before args s = true) (hN : (Cond.isRef (.static Bundle.tN "SUPPRESSED_SENTINEL" Bundle.listD)).before args s = true)
    (lU : (Cond.laysStatic Bundle.tN "UNASSIGNED_STACK" Bundle.steD).before args s = true) (lN : (Cond.laysStatic Bundle.tN "SUPPRESSED_SENTINEL" Bundle.listD).before args s = true) : ∀ w ∈ L, w.before args s = true := by
  intro w hw
  by_cases e1 : w = .isRef (.static Bundle.tN "UNASSIGNED_STACK" Bundle.steD)
  · rw [e1]; exact hU
  · by_cases e2 : w = .isRef (.static Bundle.tN "SUPPRESSED_SENTINEL" Bundle.listD)
    · rw [e2]; exact hN
    · by_cases e3 : w = .laysStatic Bundle.tN "UNASSIGNED_STACK" Bundle.steD
      · rw [e3]; exact lU
      · by_cases e4 : w = .laysStatic Bundle.tN "SUPPRESSED_SENTINEL" Bundle.listD
        · rw [e4]; exact lN
        · exact h1 w (List.mem_filter.mpr ⟨hw, by unfold vx_no; rw [decide_eq_true e1, decide_eq_true e2, decide_eq_true e3, decide_eq_true e4]; rfl⟩)
/-- where a static field lies, its class's statics cell in H -/
def vx_L (C n d : String) (A : Nat → Prop) (U : State) (H : Heap) : Prop := ∃ (c : ClassId) (k : Class) (i : Nat) (f : Field) (a : Nat) (cell : Cell), U.vm.findClass C = some c ∧ U.fieldFound? C n d = some (c, k, i, f) ∧ f.isStatic = true ∧ k.statics = some a ∧ H[a]? = some cell ∧ cell.vm.isStatics = true ∧ cell.cls = c ∧ f.slot < cell.slots.size ∧ k.staticTypes[f.slot]? = some f.type ∧ ¬ A a
theorem vx_L.moved {C n d : String} {A : Nat → Prop} {u U : State} {H : Heap} (hvm : u.vm.Alike U.vm) (h : vx_L C n d A u H) : vx_L C n d A U H := by
  obtain ⟨c, k, i, f, a, cell, h1, h2, h3, h4, h5, h6, h7, h8, h9, h10⟩ := h
  obtain ⟨k', hi', he⟩ := State.fieldFound?_setVm hvm h2
  exact ⟨c, k', i, f, a, cell, by rw [hvm.findClass]; exact h1, hi', h3, by rw [he]; exact h4, h5, h6, h7, h8, by rw [he]; exact h9, h10⟩
theorem vx_L.kept {C n d : String} {A : Nat → Prop} {U : State} {H H1 : Heap} (h : vx_L C n d A U H) (hq : ∀ a : Nat, a < H.size → ¬ A a → H1[a]? = H[a]?) : vx_L C n d A U H1 := by
  obtain ⟨c, k, i, f, a, cell, h1, h2, h3, h4, h5, h6, h7, h8, h9, h10⟩ := h
  exact ⟨c, k, i, f, a, cell, h1, h2, h3, h4, by rw [hq a (Array.getElem?_eq_some_iff.mp h5).1 h10]; exact h5, h6, h7, h8, h9, h10⟩
theorem vx_L.narrow {C n d : String} {A B : Nat → Prop} {U : State} {H : Heap} (h : vx_L C n d A U H) (hAB : ∀ q, B q → A q) : vx_L C n d B U H := by
  obtain ⟨c, k, i, f, a, cell, h1, h2, h3, h4, h5, h6, h7, h8, h9, h10⟩ := h
  exact ⟨c, k, i, f, a, cell, h1, h2, h3, h4, h5, h6, h7, h8, h9, fun z => h10 (hAB _ z)⟩
theorem vx_L.word {C n d : String} {A : Nat → Prop} {s : State} {args : Array Value} (h : vx_L C n d A s s.heap) : (Cond.laysStatic C n d).before args s = true := by
  obtain ⟨c, k, i, f, a, cell, h1, h2, h3, h4, h5, h6, h7, h8, h9, -⟩ := h
  show (Cond.laysStatic C n d).holds args s none s [] = true
  exact Cond.laysStatic_of h1 h2 h3 h4 h5 h6 h7 h8 h9
/-- .. and what it holds: null or some reference -/
def vx_Zq (C n d : String) (A : Nat → Prop) (U : State) (H : Heap) : Prop := va_Zq C n d A U H ∧ vx_L C n d A U H
theorem vx_Zq.moved {C n d : String} {A : Nat → Prop} {u U : State} {H : Heap} (hvm : u.vm.Alike U.vm) (h : vx_Zq C n d A u H) : vx_Zq C n d A U H := ⟨va_Zq.moved hvm h.1, vx_L.moved hvm h.2⟩
theorem vx_Zq.kept {C n d : String} {A : Nat → Prop} {U : State} {H H1 : Heap} (h : vx_Zq C n d A U H) (hq : ∀ a : Nat, a < H.size → ¬ A a → H1[a]? = H[a]?) : vx_Zq C n d A U H1 := ⟨va_Zq.kept h.1 hq, vx_L.kept h.2 hq⟩
theorem vx_Zq.narrow {C n d : String} {A B : Nat → Prop} {U : State} {H : Heap} (h : vx_Zq C n d A U H) (hAB : ∀ q, B q → A q) : vx_Zq C n d B U H := ⟨va_Zq.narrow h.1 hAB, vx_L.narrow h.2 hAB⟩
theorem vx_Zqof {args : Array Value} {s : State} {C n d : String} {A : Nat → Prop} (hl : (Cond.laysStatic C n d).before args s = true) (hini : (Cond.initialized C).before args s = true) (h : (Cond.isRef (.static C n d)).before args s = true) (hA : ∀ a : Nat, a < s.heap.size → ¬ A a) : vx_Zq C n d A s s.heap := by
  refine ⟨va_Zqof hl hini h hA, ?_⟩
  obtain ⟨c, k, i, f, a, cell, h1, h2, h3, h4, h5, h6, h7, h8, h9⟩ := Cond.laysStatic_spec hl
  exact ⟨c, k, i, f, a, cell, h1, h2, h3, h4, h5, h6, h7, h8, h9, hA a (Array.getElem?_eq_some_iff.mp h5).1⟩
theorem vx_isRef {C n d : String} {v : Value} {A : Nat → Prop} {s : State} {args : Array Value} (h : va_Z C n d v A s s.heap) (hv : v.isRef = true) : (Cond.isRef (.static C n d)).before args s = true := by
  obtain ⟨cf, kf, fi, f, a, cell, h1, h2, h3, h4, h5, h6, h7, -⟩ := h
  have he : (Term.static C n d).eval args s none [] s = some v := by
    simp [Term.eval, State.fieldNamed?, h1, h2, h4, h5, h6, h7]
  simp only [Cond.before, Cond.holds, Cond.value, he]
  cases v <;> simp_all [Value.isRef]
theorem vx_isRefq {C n d : String} {A : Nat → Prop} {s : State} {args : Array Value} (h : va_Zq C n d A s s.heap) : (Cond.isRef (.static C n d)).before args s = true := by
  rcases h with h | ⟨t, h⟩
  · exact vx_isRef h rfl
  · exact vx_isRef h rfl
/-- the same frame, seen from here: as if the method were called anew in this heap -/
theorem vx_rebase {T : State} (X : Stand p l e R s m args below meth c T locs cells slots) {R' : Room} (hf : R'.frames ≤ R.frames) (hl : R'.locals ≤ R.locals) (hc : cells + R'.cells ≤ R.cells) (hs : slots + R'.slots ≤ R.slots) :
    Stand p l e R' ((T.setVm s.vm).setFrames (.invoking m args :: below)) m args below meth c T [] 0 0 := by
  have htop : (T.setVm s.vm).topJava?.isSome := X.here.top
  have hF : ((T.setVm s.vm).setFrames (.invoking m args :: below)).frames = .invoking m args :: below := State.frames_setFrames _ (State.cur_lt_of_top htop)
  obtain ⟨g₀, hg0⟩ := Option.isSome_iff_exists.mp htop
  obtain ⟨r, hr⟩ := State.topJava?_eq_some.mp hg0
  have hl9 : e.platform.stackLimits (T.setVm s.vm).me = e.platform.stackLimits s.me := X.limits
  have hb9 : (T.setVm s.vm).me.stackBytes = s.me.stackBytes := X.bytes
  refine ⟨X.admits, X.cas, X.clock, hF, ?_, X.hears, X.method, X.code, X.here, X.tail, X.warmed, ?_, ?_, ?_⟩
  · have h := X.room
    have hU : ((T.setVm s.vm).setFrames (.invoking m args :: below)).localsInUse = s.localsInUse := by
      rw [State.localsInUse_invoking hF (meth := meth) (c := c) X.method X.code, State.localsInUse_invoking X.frames X.method X.code]
    simp only [State.hasRoom, Bool.and_eq_true, decide_eq_true_eq] at h ⊢
    obtain ⟨⟨⟨⟨h1, h2, h3, h4, h5, h6⟩, h7⟩, h8⟩, h9⟩ := h
    rw [X.frames, List.length_cons] at h2 h3
    have q1 := X.heapSize
    have q2 := X.used
    simp only [hF, hU, List.length_cons, State.stackLimits_setFrames, State.stackBytes_setFrames, hl9, hb9]
    refine ⟨⟨⟨⟨by omega, by omega, by omega, by omega, by omega, h6⟩, ?_⟩, ?_⟩, X.book⟩
    · show T.heap.size + R'.cells ≤ e.platform.maxCells
      omega
    · show T.slotsUsed + R'.slots ≤ e.platform.maxSlots
      omega
  · rw [State.stackLimits_setFrames]; rfl
  · rw [State.stackBytes_setFrames]; rfl
  · refine ⟨?_, Nat.le_refl _, Nat.le_refl _, ?_, ?_, fun a c9 h9 => ⟨c9, h9, rfl, rfl, fun _ _ => rfl⟩⟩
    · obtain ⟨t, ht, -⟩ := State.frames_cons hr
      show T.setVm s.vm = { ((T.setVm s.vm).setFrames (.invoking m args :: below)).setFrames (T.setVm s.vm).frames with heap := T.heap, slotsUsed := T.slotsUsed }
      rw [State.setFrames_setFrames, State.setFrames_self ht]
      rfl
    · show T.slotsUsed = T.slotsUsed + ((T.heap.toList.drop T.heap.size).map (·.slots.size)).sum
      rw [List.drop_eq_nil_of_le (Nat.le_of_eq Array.length_toList)]
      rfl
    · show ((T.heap.toList.drop T.heap.size).map (·.slots.size)).sum ≤ 0
      rw [List.drop_eq_nil_of_le (Nat.le_of_eq Array.length_toList)]
      exact Nat.le_refl _
/-- 'throw new E()': new; dup; invokespecial; athrow -/
theorem vx_throw0 {cc : ByteArray} {pc : Nat} (hexec : p.tables.exec = Jvm.exec) (hb : c.code = cc) (hl : l.stackTraces = false) {own cls : String} {names : List String} {ik ic mc ms : Nat} {A : Nat → Prop}
    (hown : s.vm.findClass own = some m.cls) (hcls : Bundle.fit cls = true) (hnames : ∀ n ∈ names, Bundle.fit n = true)
    (hk : (Cond.classLink own ik cls).before args s = true) (hini : (Cond.initialized cls).before args s = true) (hat : ∀ w ∈ vx_at0 own ic cls names, w.before args s = true)
    (hgood : ∀ w ∈ Cond.classLink own ik cls :: Cond.initialized cls :: vx_at0 own ic cls names, vx_ot w = true)
    (hU : vx_Zq Bundle.tN "UNASSIGNED_STACK" Bundle.steD A s s.heap) (hN : vx_Zq Bundle.tN "SUPPRESSED_SENTINEL" Bundle.listD A s s.heap) (hS : va_S A s.heap H locs) (hsize : ls.size = c.maxLocals)
    (d0 : decode cc pc = .ok (.new ik, 3)) (d3 : decode cc (pc + 3) = .ok (.dup, 1)) (d4 : decode cc (pc + 4) = .ok (.invokespecial ic, 3)) (d7 : decode cc (pc + 7) = .ok (.athrow, 1))
    (hout : ∀ x ∈ c.exceptionTable.toList, covers x (pc + 7) = false)
    (hRframes : names.length + 3 < R.frames) (hRlocals : (rest.map fun v => v.category).sum + (13 * (names.length + 1) + 42) ≤ R.locals) (hRcells : cells + 1 ≤ R.cells) (hRslots : slots + 6 ≤ R.slots) (hlocks : meth.locks = false)
    (hx : ∀ t : State, s.vm.Alike t.vm → H.size ≤ t.heap.size → (∀ q : Nat, q < H.size → t.heap[q]? = H[q]?) → XC cls s t)
    (hf : ∀ z ∈ locs, free z.base) (hc : cells + 1 ≤ mc) (hs : slots + 6 ≤ ms) :
    W p l e R s m args below meth c H locs cells slots (vx_MQ below Qc XC args s mc ms free) (F0 m pc ls rest) := by
  intro T hT X
  have htr : e.platform.stackTraces = false := (show e.platform.stackTraces = l.stackTraces by rw [X.admits.platform]).trans hl
  have Y := vx_rebase X (R' := { frames := R.frames, locals := R.locals, cells := 1, slots := 6 }) (Nat.le_refl _) (Nat.le_refl _) hRcells hRslots
  obtain ⟨s', hA⟩ : ∃ z, z = (T.setVm s.vm).setFrames (.invoking m args :: below) := ⟨_, rfl⟩
  rw [← hA] at Y
  have hvm : s'.vm = s.vm := by rw [hA]; rfl
  have hhp : s'.heap = H := by rw [hA]; exact hT
  have hW0 : s.WarmedH s'.vm := by rw [hvm]; exact State.WarmedH.refl s
  have hat' : ∀ w ∈ vx_at0 own ic cls names, w.before args s' = true := fun w hw => vx_ot_at hW0 hvm.symm (hgood w (List.mem_cons_of_mem _ (List.mem_cons_of_mem _ hw))) (hat w hw)
  have hk' : (Cond.classLink own ik cls).before args s' = true := vx_ot_at hW0 hvm.symm (hgood _ List.mem_cons_self) hk
  have hini' : (Cond.initialized cls).before args s' = true := vx_ot_at hW0 hvm.symm (hgood _ (List.mem_cons_of_mem _ List.mem_cons_self)) hini
  have hU' : vx_Zq Bundle.tN "UNASSIGNED_STACK" Bundle.steD A s' s'.heap := by rw [hhp]; exact vx_Zq.moved hW0.alike (hU.kept hS.2.1)
  have hN' : vx_Zq Bundle.tN "SUPPRESSED_SENTINEL" Bundle.listD A s' s'.heap := by rw [hhp]; exact vx_Zq.moved hW0.alike (hN.kept hS.2.1)
  have h : ∀ w ∈ Bundle.ownAtoms0 own ic cls names, w.before args s' = true := vx_own hat' (vx_isRefq hU'.1) (vx_isRefq hN'.1) hU'.2.word hN'.2.word
  have hown' : s'.vm.findClass own = some m.cls := by rw [hvm]; exact hown
  have hins : (Cond.instantiable cls 6).before args s' = true := h _ (by simp [Bundle.ownAtoms0])
  obtain ⟨vm₁, cX, kX, hfX, hkX, -, -, X₁, st1⟩ := Y.newCold hexec (own := own) (C := cls) (index := ik) (n := 6) hown' hk' hins hini'
    (g := F0 m pc ls rest) rfl (by rw [hb]; exact d0) (Nat.le_refl _) (Nat.le_refl _)
  generalize hT1 : (T.setVm vm₁).pushCell { cls := cX, slots := kX.instanceTypes.map defaultValue, vm := .none } = T1 at X₁ st1
  have hcat : (Value.ref T.heap.size).category = 1 := rfl
  have hcellA : T1.heap[T.heap.size]? = some (freshCell cX kX) := by rw [← hT1]; exact State.heap_pushCell_size _ _
  have d3' : decode c.code (pc + 3) = .ok (.dup, 1) := by rw [hb]; exact d3
  obtain ⟨U, hsteps, hrun, hend, hW, hsame, ce, hce, hO⟩ := X₁.ctorThrow0 hexec htr (own := own) (cls := cls) (names := names) (ic := ic) hown' hcls hnames h (fun x hx => nomatch hx) hfX hkX hcellA (by rw [hhp, hT]; exact Nat.le_refl _)
    (g := { method := m, pc := pc + 4, locals := ls, stack := .ref T.heap.size :: .ref T.heap.size :: rest, locked := none }) rfl hsize rfl rfl (rest := rest) rfl
    (by rw [hb]; exact d4) (by rw [hb]; exact d7) hout hRframes (by simp only [List.map_cons, List.sum_cons, hcat]; omega) hlocks
  obtain ⟨f1, f2⟩ := vx_frame hsame
  rw [hhp] at f1 f2
  have hWs : s.WarmedH U.vm := State.WarmedH.trans hW0 hW
  have hcl : s.vm.findClass cls = some ce.cls := by
    have h9 := hO.cls
    rw [hvm] at h9
    exact h9
  have hall : s.sameButNew ({ U with vm := s.vm } : State) locs mc ms := by
    subst hA
    obtain ⟨e1, e2⟩ := hsame
    rw [State.setFrames_setFrames] at e1
    have h2 : (T.setVm s.vm).sameButNew ({ U with vm := s.vm } : State) [] (0 + 1) (0 + 6) := ⟨e1, e2⟩
    have h3 := X.same.trans h2
    rw [List.append_nil] at h3
    exact h3.mono hc hs
  refine ⟨U, ?_, .threw T.heap.size, hrun, hend, Or.inr ⟨T.heap.size, rfl, cls, ce, locs, hx U hWs.alike f1 (fun q hq => f2 q hq (fun z hz => nomatch hz)), hce, hO.vm, hcl, hWs, hall, hf⟩⟩
  refine st1 _ ?_
  show Steps p.tables e below (T1.setTop { method := m, pc := pc + 3, locals := ls, stack := .ref T.heap.size :: rest, locked := none }) _
  jvm_step X₁.here [X₁.here.top, hexec, d3', Value.category]
  exact hsteps
/-- 'throw new E("text")': new; dup; ldc; invokespecial; athrow -/
theorem vx_throwS {cc : ByteArray} {pc : Nat} (hexec : p.tables.exec = Jvm.exec) (hb : c.code = cc) (hl : l.stackTraces = false) {own cls text : String} {names : List String} {ik is ic mc ms sa : Nat} {A : Nat → Prop}
    (hown : s.vm.findClass own = some m.cls) (hcls : Bundle.fit cls = true) (hnames : ∀ n ∈ names, Bundle.fit n = true)
    (hk : (Cond.classLink own ik cls).before args s = true) (hini : (Cond.initialized cls).before args s = true) (hstr : vk_R own is text sa s) (hat : ∀ w ∈ vx_atS own ic cls names, w.before args s = true)
    (hgood : ∀ w ∈ Cond.classLink own ik cls :: Cond.initialized cls :: vx_atS own ic cls names, vx_ot w = true)
    (hU : vx_Zq Bundle.tN "UNASSIGNED_STACK" Bundle.steD A s s.heap) (hN : vx_Zq Bundle.tN "SUPPRESSED_SENTINEL" Bundle.listD A s s.heap) (hS : va_S A s.heap H locs) (hsize : ls.size = c.maxLocals)
    (d0 : decode cc pc = .ok (.new ik, 3)) (d3 : decode cc (pc + 3) = .ok (.dup, 1)) (d4 : decode cc (pc + 4) = .ok (.ldc is, 2)) (d6 : decode cc (pc + 6) = .ok (.invokespecial ic, 3)) (d9 : decode cc (pc + 9) = .ok (.athrow, 1))
    (hout : ∀ x ∈ c.exceptionTable.toList, covers x (pc + 9) = false)
    (hRframes : names.length + 3 < R.frames) (hRlocals : (rest.map fun v => v.category).sum + (13 * (names.length + 1) + 43) ≤ R.locals) (hRcells : cells + 1 ≤ R.cells) (hRslots : slots + 6 ≤ R.slots) (hlocks : meth.locks = false)
    (hx : ∀ t : State, s.vm.Alike t.vm → H.size ≤ t.heap.size → (∀ q : Nat, q < H.size → t.heap[q]? = H[q]?) → XC cls s t)
    (hf : ∀ z ∈ locs, free z.base) (hc : cells + 1 ≤ mc) (hs : slots + 6 ≤ ms) :
    W p l e R s m args below meth c H locs cells slots (vx_MQ below Qc XC args s mc ms free) (F0 m pc ls rest) := by
  intro T hT X
  have htr : e.platform.stackTraces = false := (show e.platform.stackTraces = l.stackTraces by rw [X.admits.platform]).trans hl
  have Y := vx_rebase X (R' := { frames := R.frames, locals := R.locals, cells := 1, slots := 6 }) (Nat.le_refl _) (Nat.le_refl _) hRcells hRslots
  obtain ⟨s', hA⟩ : ∃ z, z = (T.setVm s.vm).setFrames (.invoking m args :: below) := ⟨_, rfl⟩
  rw [← hA] at Y
  have hvm : s'.vm = s.vm := by rw [hA]; rfl
  have hhp : s'.heap = H := by rw [hA]; exact hT
  have hW0 : s.WarmedH s'.vm := by rw [hvm]; exact State.WarmedH.refl s
  have hat' : ∀ w ∈ vx_atS own ic cls names, w.before args s' = true := fun w hw => vx_ot_at hW0 hvm.symm (hgood w (List.mem_cons_of_mem _ (List.mem_cons_of_mem _ hw))) (hat w hw)
  have hk' : (Cond.classLink own ik cls).before args s' = true := vx_ot_at hW0 hvm.symm (hgood _ List.mem_cons_self) hk
  have hini' : (Cond.initialized cls).before args s' = true := vx_ot_at hW0 hvm.symm (hgood _ (List.mem_cons_of_mem _ List.mem_cons_self)) hini
  have hU' : vx_Zq Bundle.tN "UNASSIGNED_STACK" Bundle.steD A s' s'.heap := by rw [hhp]; exact vx_Zq.moved hW0.alike (hU.kept hS.2.1)
  have hN' : vx_Zq Bundle.tN "SUPPRESSED_SENTINEL" Bundle.listD A s' s'.heap := by rw [hhp]; exact vx_Zq.moved hW0.alike (hN.kept hS.2.1)
  have h : ∀ w ∈ Bundle.ownAtoms own ic cls names, w.before args s' = true := vx_own hat' (vx_isRefq hU'.1) (vx_isRefq hN'.1) hU'.2.word hN'.2.word
  have hown' : s'.vm.findClass own = some m.cls := by rw [hvm]; exact hown
  have hins : (Cond.instantiable cls 6).before args s' = true := h _ (by simp [Bundle.ownAtoms])
  obtain ⟨vm₁, cX, kX, hfX, hkX, -, -, X₁, st1⟩ := Y.newCold hexec (own := own) (C := cls) (index := ik) (n := 6) hown' hk' hins hini'
    (g := F0 m pc ls rest) rfl (by rw [hb]; exact d0) (Nat.le_refl _) (Nat.le_refl _)
  generalize hT1 : (T.setVm vm₁).pushCell { cls := cX, slots := kX.instanceTypes.map defaultValue, vm := .none } = T1 at X₁ st1
  have hcat : (Value.ref T.heap.size).category = 1 := rfl
  have hcellA : T1.heap[T.heap.size]? = some (freshCell cX kX) := by rw [← hT1]; exact State.heap_pushCell_size _ _
  have d3' : decode c.code (pc + 3) = .ok (.dup, 1) := by rw [hb]; exact d3
  have d4' : decode c.code (pc + 4) = .ok (.ldc is, 2) := by rw [hb]; exact d4
  have hstr' : vk_R own is text sa s' := vk_R.warm hW0 hstr
  obtain ⟨U, hsteps, hrun, hend, hW, hsame, ce, hce, hO⟩ := X₁.ctorThrowS hexec htr (own := own) (cls := cls) (names := names) (ic := ic) hown' hcls hnames h (fun x hx => nomatch hx) hfX hkX hcellA (by rw [hhp, hT]; exact Nat.le_refl _) (msg := .ref sa) rfl
    (g := { method := m, pc := pc + 6, locals := ls, stack := .ref sa :: .ref T.heap.size :: .ref T.heap.size :: rest, locked := none }) rfl hsize rfl rfl (rest := rest) rfl
    (by rw [hb]; exact d6) (by rw [hb]; exact d9) hout hRframes (by simp only [List.map_cons, List.sum_cons, hcat]; omega) hlocks
  obtain ⟨f1, f2⟩ := vx_frame hsame
  rw [hhp] at f1 f2
  have hWs : s.WarmedH U.vm := State.WarmedH.trans hW0 hW
  have hcl : s.vm.findClass cls = some ce.cls := by
    have h9 := hO.cls
    rw [hvm] at h9
    exact h9
  have hall : s.sameButNew ({ U with vm := s.vm } : State) locs mc ms := by
    subst hA
    obtain ⟨e1, e2⟩ := hsame
    rw [State.setFrames_setFrames] at e1
    have h2 : (T.setVm s.vm).sameButNew ({ U with vm := s.vm } : State) [] (0 + 1) (0 + 6) := ⟨e1, e2⟩
    have h3 := X.same.trans h2
    rw [List.append_nil] at h3
    exact h3.mono hc hs
  refine ⟨U, ?_, .threw T.heap.size, hrun, hend, Or.inr ⟨T.heap.size, rfl, cls, ce, locs, hx U hWs.alike f1 (fun q hq => f2 q hq (fun z hz => nomatch hz)), hce, hO.vm, hcl, hWs, hall, hf⟩⟩
  refine st1 _ ?_
  show Steps p.tables e below (T1.setTop { method := m, pc := pc + 3, locals := ls, stack := .ref T.heap.size :: rest, locked := none }) _
  jvm_step X₁.here [X₁.here.top, hexec, d3', Value.category]
  exact X₁.ldcString hexec (own := own) (text := text) (index := is) (a := sa) hown' hstr'.1 hstr'.2
    (g := { method := m, pc := pc + 4, locals := ls, stack := .ref T.heap.size :: .ref T.heap.size :: rest, locked := none }) rfl d4' _ hsteps
/-- 'throw new E("text")', the text by a wide index -/
theorem vx_throwSW {cc : ByteArray} {pc : Nat} (hexec : p.tables.exec = Jvm.exec) (hb : c.code = cc) (hl : l.stackTraces = false) {own cls text : String} {names : List String} {ik is ic mc ms sa : Nat} {A : Nat → Prop}
    (hown : s.vm.findClass own = some m.cls) (hcls : Bundle.fit cls = true) (hnames : ∀ n ∈ names, Bundle.fit n = true)
    (hk : (Cond.classLink own ik cls).before args s = true) (hini : (Cond.initialized cls).before args s = true) (hstr : vk_R own is text sa s) (hat : ∀ w ∈ vx_atS own ic cls names, w.before args s = true)
    (hgood : ∀ w ∈ Cond.classLink own ik cls :: Cond.initialized cls :: vx_atS own ic cls names, vx_ot w = true)
    (hU : vx_Zq Bundle.tN "UNASSIGNED_STACK" Bundle.steD A s s.heap) (hN : vx_Zq Bundle.tN "SUPPRESSED_SENTINEL" Bundle.listD A s s.heap) (hS : va_S A s.heap H locs) (hsize : ls.size = c.maxLocals)
    (d0 : decode cc pc = .ok (.new ik, 3)) (d3 : decode cc (pc + 3) = .ok (.dup, 1)) (d4 : decode cc (pc + 4) = .ok (.ldc_w is, 3)) (d7 : decode cc (pc + 7) = .ok (.invokespecial ic, 3)) (d10 : decode cc (pc + 10) = .ok (.athrow, 1))
    (hout : ∀ x ∈ c.exceptionTable.toList, covers x (pc + 10) = false)
    (hRframes : names.length + 3 < R.frames) (hRlocals : (rest.map fun v => v.category).sum + (13 * (names.length + 1) + 43) ≤ R.locals) (hRcells : cells + 1 ≤ R.cells) (hRslots : slots + 6 ≤ R.slots) (hlocks : meth.locks = false)
    (hx : ∀ t : State, s.vm.Alike t.vm → H.size ≤ t.heap.size → (∀ q : Nat, q < H.size → t.heap[q]? = H[q]?) → XC cls s t)
    (hf : ∀ z ∈ locs, free z.base) (hc : cells + 1 ≤ mc) (hs : slots + 6 ≤ ms) :
    W p l e R s m args below meth c H locs cells slots (vx_MQ below Qc XC args s mc ms free) (F0 m pc ls rest) := by
  intro T hT X
  have htr : e.platform.stackTraces = false := (show e.platform.stackTraces = l.stackTraces by rw [X.admits.platform]).trans hl
  have Y := vx_rebase X (R' := { frames := R.frames, locals := R.locals, cells := 1, slots := 6 }) (Nat.le_refl _) (Nat.le_refl _) hRcells hRslots
  obtain ⟨s', hA⟩ : ∃ z, z = (T.setVm s.vm).setFrames (.invoking m args :: below) := ⟨_, rfl⟩
  rw [← hA] at Y
  have hvm : s'.vm = s.vm := by rw [hA]; rfl
  have hhp : s'.heap = H := by rw [hA]; exact hT
  have hW0 : s.WarmedH s'.vm := by rw [hvm]; exact State.WarmedH.refl s
  have hat' : ∀ w ∈ vx_atS own ic cls names, w.before args s' = true := fun w hw => vx_ot_at hW0 hvm.symm (hgood w (List.mem_cons_of_mem _ (List.mem_cons_of_mem _ hw))) (hat w hw)
  have hk' : (Cond.classLink own ik cls).before args s' = true := vx_ot_at hW0 hvm.symm (hgood _ List.mem_cons_self) hk
  have hini' : (Cond.initialized cls).before args s' = true := vx_ot_at hW0 hvm.symm (hgood _ (List.mem_cons_of_mem _ List.mem_cons_self)) hini
  have hU' : vx_Zq Bundle.tN "UNASSIGNED_STACK" Bundle.steD A s' s'.heap := by rw [hhp]; exact vx_Zq.moved hW0.alike (hU.kept hS.2.1)
  have hN' : vx_Zq Bundle.tN "SUPPRESSED_SENTINEL" Bundle.listD A s' s'.heap := by rw [hhp]; exact vx_Zq.moved hW0.alike (hN.kept hS.2.1)
  have h : ∀ w ∈ Bundle.ownAtoms own ic cls names, w.before args s' = true := vx_own hat' (vx_isRefq hU'.1) (vx_isRefq hN'.1) hU'.2.word hN'.2.word
  have hown' : s'.vm.findClass own = some m.cls := by rw [hvm]; exact hown
  have hins : (Cond.instantiable cls 6).before args s' = true := h _ (by simp [Bundle.ownAtoms])
  obtain ⟨vm₁, cX, kX, hfX, hkX, -, -, X₁, st1⟩ := Y.newCold hexec (own := own) (C := cls) (index := ik) (n := 6) hown' hk' hins hini'
    (g := F0 m pc ls rest) rfl (by rw [hb]; exact d0) (Nat.le_refl _) (Nat.le_refl _)
  generalize hT1 : (T.setVm vm₁).pushCell { cls := cX, slots := kX.instanceTypes.map defaultValue, vm := .none } = T1 at X₁ st1
  have hcat : (Value.ref T.heap.size).category = 1 := rfl
  have hcellA : T1.heap[T.heap.size]? = some (freshCell cX kX) := by rw [← hT1]; exact State.heap_pushCell_size _ _
  have d3' : decode c.code (pc + 3) = .ok (.dup, 1) := by rw [hb]; exact d3
  have d4' : decode c.code (pc + 4) = .ok (.ldc_w is, 3) := by rw [hb]; exact d4
  have hstr' : vk_R own is text sa s' := vk_R.warm hW0 hstr
  obtain ⟨U, hsteps, hrun, hend, hW, hsame, ce, hce, hO⟩ := X₁.ctorThrowS hexec htr (own := own) (cls := cls) (names := names) (ic := ic) hown' hcls hnames h (fun x hx => nomatch hx) hfX hkX hcellA (by rw [hhp, hT]; exact Nat.le_refl _) (msg := .ref sa) rfl
    (g := { method := m, pc := pc + 7, locals := ls, stack := .ref sa :: .ref T.heap.size :: .ref T.heap.size :: rest, locked := none }) rfl hsize rfl rfl (rest := rest) rfl
    (by rw [hb]; exact d7) (by rw [hb]; exact d10) hout hRframes (by simp only [List.map_cons, List.sum_cons, hcat]; omega) hlocks
  obtain ⟨f1, f2⟩ := vx_frame hsame
  rw [hhp] at f1 f2
  have hWs : s.WarmedH U.vm := State.WarmedH.trans hW0 hW
  have hcl : s.vm.findClass cls = some ce.cls := by
    have h9 := hO.cls
    rw [hvm] at h9
    exact h9
  have hall : s.sameButNew ({ U with vm := s.vm } : State) locs mc ms := by
    subst hA
    obtain ⟨e1, e2⟩ := hsame
    rw [State.setFrames_setFrames] at e1
    have h2 : (T.setVm s.vm).sameButNew ({ U with vm := s.vm } : State) [] (0 + 1) (0 + 6) := ⟨e1, e2⟩
    have h3 := X.same.trans h2
    rw [List.append_nil] at h3
    exact h3.mono hc hs
  refine ⟨U, ?_, .threw T.heap.size, hrun, hend, Or.inr ⟨T.heap.size, rfl, cls, ce, locs, hx U hWs.alike f1 (fun q hq => f2 q hq (fun z hz => nomatch hz)), hce, hO.vm, hcl, hWs, hall, hf⟩⟩
  refine st1 _ ?_
  show Steps p.tables e below (T1.setTop { method := m, pc := pc + 3, locals := ls, stack := .ref T.heap.size :: rest, locked := none }) _
  jvm_step X₁.here [X₁.here.top, hexec, d3', Value.category]
  exact X₁.ldcStringW hexec (own := own) (text := text) (index := is) (a := sa) hown' hstr'.1 hstr'.2
    (g := { method := m, pc := pc + 4, locals := ls, stack := .ref T.heap.size :: .ref T.heap.size :: rest, locked := none }) rfl d4' _ hsteps
end Ends
section Bodies
variable {l : Launch}
theorem vx_ofW {y : MethodName} {ws ws' : List Cond} {rm : Room} {Pc : Array Value → State → Prop} {Qc : Array Value → State → Outcome → State → Prop} {XC : String → State → State → Prop} {mc ms : Nat} {free : Addr → Prop} {cc : ByteArray} {maxL : Nat} {ret : Option FieldType}
    (hy : plainName y.cls = true) (hw : ws = Cond.code y cc maxL ret :: ws')
    (body : ∀ p e s m args below meth c s₁, BodyLoose p l y (headSpec ws rm) cc maxL ret e s m args below meth c s₁ → c.maxLocals = maxL → (∀ x ∈ c.exceptionTable.toList, False) → Pc args s →
      W p l e (headSpec ws rm).room s m args below meth c s.heap [] 0 0 (vx_MQ below Qc XC args s mc ms free) (entryFrame m args maxL)) : vx_Met l y ws rm Pc Qc XC mc ms free := by
  refine MetFree.of_bodyS (code := cc) (maxLocals := maxL) (ret := ret) hy ?_ ?_
  · intro args s m h hn
    obtain ⟨meth, c, h1, h2, h3, h4, h5, h6, -, -⟩ := Cond.code_spec hn (atoms_spec (ws := ws) h _ (by rw [hw]; exact List.mem_cons_self))
    exact ⟨meth, c, h1, h2, h3, h4, h5, h6⟩
  · intro p e s m args below meth c s₁ B hml hP _
    have hh0 : s₁.heap = s.heap := by rw [B.state]; rfl
    have ht : ∀ x ∈ c.exceptionTable.toList, False := by
      obtain ⟨meth9, c9, h1, h2, -, -, -, -, h7, -⟩ := Cond.code_spec B.named (atoms_spec (ws := ws) B.pre _ (by rw [hw]; exact List.mem_cons_self))
      cases Option.some.inj (h1.symm.trans B.method)
      cases Option.some.inj (h2.symm.trans (Stand.of_body B).code)
      intro x hx
      rw [Array.isEmpty_iff.mp h7] at hx
      cases hx
    obtain ⟨t, a1, o, b1, b2, b3⟩ := body p e s m args below meth c s₁ B hml ht hP s₁ hh0 (Stand.of_body B)
    exact ⟨t, o, a1, b1, b2, b3⟩
/-- the table of a body with handlers -/
theorem vx_table {p : Program} {x y : MethodName} {S : Spec} {cc bytes : ByteArray} {maxL maxL' : Nat} {ret ret' : Option FieldType} {e : Env} {s s₁ : State} {m : MethodId} {args : Array Value} {below : List Frame} {meth : Method} {c : Code} {hh : List (Nat × Nat × Nat × Nat)}
    (B : BodyLoose p l y S cc maxL ret e s m args below meth c s₁) (h : (Cond.codeWith y bytes maxL' ret' hh).before args s = true) : c.exceptionTable.toList = tableOf hh := by
  obtain ⟨m9, meth9, c9, hn9, h1, h2, -, -, h6, -⟩ := Cond.codeWith_spec h
  cases Option.some.inj (hn9.symm.trans B.named)
  cases Option.some.inj (h1.symm.trans B.method)
  cases Option.some.inj (h2.symm.trans (Stand.of_body B).code)
  rw [← h6, table_eq]
end Bodies
end VXA
/-! ===== END ===== -/
/-! ===== BEGIN a static call of a method with an exception table ===== -/
section VXS
variable {p : Program} {l : Launch} {e : Env} {R : Room} {s : State} {m : MethodId} {args : Array Value} {below : List Frame} {meth : Method} {c : Code} {T : State} {H : Heap} {locs : List Loc} {cells slots : Nat}
abbrev vx_CSW (R : Room) (s : State) (args : Array Value) (own : String) (index : Nat) (y : MethodName) (bytes : ByteArray) (maxL : Nat) (ret : Option FieldType) (hh : List (Nat × Nat × Nat × Nat)) (ws : List Cond) (rm : Room) (mc ms n : Nat) : Prop :=
  (rm.cells = mc ∧ rm.slots = ms ∧ rm.frames + 1 ≤ R.frames ∧ 8 + (maxL + 11) + rm.locals ≤ R.locals ∧ (∀ w ∈ ws, ∀ (a' : Array Value) (U : State), s.WarmedH U.vm → w.before a' U = true) ∧ Cond.codeWith y bytes maxL ret hh ∈ ws) ∧
  (Cond.codeWith y bytes maxL ret hh).before args s = true ∧ (Cond.initialized y.cls).before args s = true ∧ (y.cls ≠ "java/lang/invoke/MethodHandle" ∧ y.cls ≠ "java/lang/invoke/VarHandle") ∧
  (∀ sig, parseMethodDescriptor y.desc = some sig → n = sig.parameters.length) ∧ (Cond.methodLink own index y).before args s = true ∧ (Cond.static y).before args s = true
theorem vx_cwSW {own : String} {index maxL mc ms : Nat} {y : MethodName} {bytes : ByteArray} {ret : Option FieldType} {hh : List (Nat × Nat × Nat × Nat)} {Ts ws ws' : List Cond} {rm : Room} (n : Nat) (ht : ∀ w ∈ Ts, w.before args s = true) (hT : GoodIn Ts (va_wsS own index y ws)) (hw : ws = Cond.codeWith y bytes maxL ret hh :: ws') (hrc : rm.cells = mc) (hrs : rm.slots = ms)
    (hd : y.cls ≠ "java/lang/invoke/MethodHandle" ∧ y.cls ≠ "java/lang/invoke/VarHandle" ∧ (parseMethodDescriptor y.desc).map (fun d => d.parameters.length) = some n) (hR : rm.frames + 1 ≤ R.frames ∧ 8 + (maxL + 11) + rm.locals ≤ R.locals) :
    vx_CSW R s args own index y bytes maxL ret hh ws rm mc ms n := by
  have ok : ∀ w ∈ va_wsS own index y ws, w.before args s = true := fun w h => ht w (hT w h).1
  have hG : GoodIn Ts ws := fun w h => hT w (by unfold va_wsS; exact List.mem_append_right _ h)
  have hc : Cond.codeWith y bytes maxL ret hh ∈ ws := by rw [hw]; exact List.mem_cons_self
  refine ⟨⟨hrc, hrs, hR.1, hR.2, pay_in ht hG, hc⟩, ht _ (hG _ hc).1, ok _ (by simp [va_wsS]), ⟨hd.1, hd.2.1⟩, fun sig h => ?_, ok _ (by simp [va_wsS]), ok _ (by simp [va_wsS])⟩
  have h2 := hd.2.2
  rw [h] at h2
  exact (Option.some.inj h2).symm
theorem vx_callSW (X : Stand p l e R s m args below meth c T locs cells slots) (hexec : p.tables.exec = Jvm.exec) {own : String} {index : Nat} {y : MethodName} {bytes : ByteArray} {maxL : Nat} {ret : Option FieldType} {hh : List (Nat × Nat × Nat × Nat)}
    (hown : s.vm.findClass own = some m.cls) (hlink : (Cond.methodLink own index y).before args s = true) (hstat : (Cond.static y).before args s = true) (hinit : (Cond.initialized y.cls).before args s = true)
    (hcode : (Cond.codeWith y bytes maxL ret hh).before args s = true) (hy : y.cls ≠ "java/lang/invoke/MethodHandle" ∧ y.cls ≠ "java/lang/invoke/VarHandle")
    {W9 : Nat} {Pre : Pt → Array Value → Prop} {Post : Pt → Array Value → Option Value → Pt → Prop} (hK : Back l R p e below s args y 3 W9 Pre Post)
    {g : JFrame} (hg : g.method = m) (hsize : g.locals.size = c.maxLocals) {argsL rest : List Value} (hlen : ∀ sig, parseMethodDescriptor y.desc = some sig → argsL.length = sig.parameters.length)
    (hstack : g.stack = argsL.reverse ++ rest) (hW : 2 * g.monitorRoom + (rest.map fun v => v.category).sum ≤ W9) (hdg : decode c.code g.pc = .ok (.invokestatic index, 3))
    (hpre : ∀ vm₁, s.WarmedH vm₁ → Pre ⟨T.setVm vm₁, locs, cells, slots⟩ argsL.toArray) :
    ∃ (v : Option Value) (vm₁ : Vm) (B : Pt), s.WarmedH vm₁ ∧ Stand p l e R s m args below meth c B.U B.locs B.cells B.slots ∧ Post ⟨T.setVm vm₁, locs, cells, slots⟩ argsL.toArray v B ∧
      ∀ target, Steps p.tables e below (B.U.setTop { g with pc := g.pc + 3, stack := v.toList ++ rest }) target → Steps p.tables e below (T.setTop g) target := by
  obtain ⟨mk, methM, cM, hnamed, hmethM, -, -, -, -, -, -, hsigM⟩ := Cond.codeWith_spec hcode
  have hstatic : methM.isStatic = true := Cond.static_spec hnamed hmethM hstat
  obtain ⟨kP, hkP, -⟩ := className_of_methodNamed hnamed
  have hinitP : kP.init = .initialized := Cond.initialized_spec (findClass_of_methodNamed hnamed) hkP hinit
  obtain ⟨vm₁, X₁, hstep₁⟩ := X.invokestatic hexec hown hlink hnamed hmethM hstatic hkP hinitP hy (g := g) hg (argsL := argsL) (rest := rest) (hlen _ hsigM) hstack hdg
  obtain ⟨v, B, X', hpost, hsteps⟩ := hK m meth c ⟨T.setVm vm₁, locs, cells, slots⟩ { g with stack := rest } (.invokestatic index) mk argsL.toArray X₁ hg hsize hdg hW (X₁.named hnamed) (hpre vm₁ X₁.warmed)
  exact ⟨v, vm₁, B, X₁.warmed, X', hpost, fun target h => hstep₁ _ fun acts => by rw [doInvoke_state]; exact hsteps.trans h⟩
theorem vx_runSW {y : MethodName} {bytes cc : ByteArray} {maxL nL mc ms n index : Nat} {ret : Option FieldType} {hh : List (Nat × Nat × Nat × Nat)} {ws : List Cond} {rm : Room} {Pc : Array Value → State → Prop} {Qc : Array Value → State → Outcome → State → Prop} {free : Addr → Prop} {Ts : List Cond} {own : String} {As rest : List Value} {g : JFrame}
    (S : CallFix p m c cc nL s args Ts own) (hM : Met l y ws rm Pc Qc mc ms free) (cw : vx_CSW R s args own index y bytes maxL ret hh ws rm mc ms n) (hp : PreS s H Pc As)
    (hg : g.method = m) (hn : As.length = n) (hsize : g.locals.size = nL) (hstack : g.stack = As.reverse ++ rest) (hW : 2 * g.monitorRoom + (rest.map fun v => v.category).sum ≤ 8) (hdg : decode cc g.pc = .ok (.invokestatic index, 3)) (hf : cells + mc ≤ R.cells ∧ slots + ms ≤ R.slots) :
    va_Run p l e R s m args below meth c H locs cells slots mc ms g rest (Qc As.toArray) (free) := by
  obtain ⟨⟨hrc, hrs, hfr, hlo, hws, hcw⟩, hcode, hini, hy, hlen, hl, hstt⟩ := cw
  have hK : Back l R p e below s args y 3 8 (PreOf R mc ms Pc) (PostOf Qc mc ms free) := va_backW (hh := hh) (bytes := bytes) (maxL := maxL) (ret := ret) hM hp.1 hrc hrs hfr hlo hws hcw (fun a' U hW => word_at hW (Or.inl (by first | rfl | simp [Cond.onTables, Cond.keeps, Cond.steady])) hini)
  obtain ⟨hx, hb, hml, ho, -⟩ := S
  intro T hT X
  obtain ⟨v, vm₁, ⟨U', l2, c2, s2⟩, hW₁, X', ⟨g', mk, t, L, e1, e2, hq, h1, hL, h2, h3⟩, st⟩ := vx_callSW X hx (hh := hh) (bytes := bytes) (maxL := maxL) (ret := ret) ho hl hstt hini hcode hy hK hg (hsize.trans hml.symm) (argsL := As) (rest := rest) (fun sig h => hn.trans (hlen sig h)) hstack hW (by rw [hb]; exact hdg)
    (fun vm₁ hW₁ => ⟨hf.1, hf.2, hp.2 (T.setVm vm₁) hT hW₁⟩)
  dsimp only [Pt.U, Pt.locs, Pt.cells, Pt.slots] at X' e1 e2 h1 h2 h3 st
  subst h1; subst h2; subst h3
  exact ⟨v, (T.setVm vm₁).calling g' mk As.toArray, t, U', L, hT, X', hL, e1, e2, hq, st⟩
/-- not caught here, past rows that name other classes: it goes on to the caller -/
theorem vx_outP {p : Program} {l : Launch} {e : Env} {R : Room} {s : State} {m : MethodId} {args : Array Value} {below : List Frame} {meth : Method} {c : Code} {H : Heap} {locs : List Loc} {cells slots : Nat} {free : Addr → Prop} {ls : Array Slot} {rest : List Value} {Qc : Array Value → State → Outcome → State → Prop} {XC : String → State → State → Prop}
    {pc : Nat} {own E : String} {ce : Cell} {q : Addr} {mc ms : Nat} (hown : s.vm.findClass own = some m.cls) (hlocks : meth.locks = false)
    (hpass : ∀ z ∈ c.exceptionTable.toList, covers z pc = false ∨ (z.catchType ≠ 0 ∧ ∃ nm : String, (Cond.classLink own z.catchType nm).before args s = true ∧ va_Nc E nm s)) (hcell : H[q]? = some ce) (hv : ce.vm = .none) (hcl : s.vm.findClass E = some ce.cls)
    (hx : ∀ t : State, t.heap = H → s.vm.Alike t.vm → XC E s t) (hf : ∀ z ∈ locs, free z.base) (hc : cells ≤ mc) (hs : slots ≤ ms) :
    vx_W p l e R s m args below meth c H locs cells slots (vx_MQ below Qc XC args s mc ms free) (F0 m pc ls rest) q := by
  intro T hT X
  have hpl : e.platform.magicAccessors = ({} : Platform).magicAccessors := by rw [X.admits.platform]
  obtain ⟨vm', hW', X', st⟩ := X.outThrough hlocks q (g := F0 m pc ls rest) rfl rfl rfl (cell := ce) (by rw [hT]; exact hcell) (by rw [hv]; rfl)
    (by obtain ⟨k9, h9, -⟩ := Vm.findClass_spec hcl; exact ⟨k9, h9⟩) (fun z hz => by
      rcases hpass z hz with h | ⟨hz0, nm, hl1, hn1⟩
      · exact Or.inl h
      · obtain ⟨c6, hc6, hcl6⟩ := Cond.classLink_spec hown hl1 e.platform hpl
        obtain ⟨a8, b8, h1, h2, h3⟩ := hn1
        cases Option.some.inj (h1.symm.trans hcl)
        cases Option.some.inj (h2.symm.trans hc6)
        exact Or.inr ⟨hz0, _, hcl6, h3⟩)
  obtain ⟨g₀, hfr⟩ := X'.frames_eq
  have hcell9 : ((T.setVm vm').setFrames (.throwing q :: below)).heap[q]? = some ce := by
    show T.heap[q]? = some ce
    rw [hT]; exact hcell
  have hend : Ended ((T.setVm vm').setFrames (.throwing q :: below)) below (.threw q) := State.frames_setFrames _ (State.cur_lt_of_frames hfr)
  refine ⟨(T.setVm vm').setFrames (.throwing q :: below), ?_, .threw q, X'.here.running, hend, Or.inr ⟨q, rfl, E, ce, locs, hx _ hT (X'.ends _).1.alike, hcell9, hv, hcl, (X'.ends _).1, (X'.ends _).2.mono hc hs, hf⟩⟩
  rw [X.pushThrowing_eq]
  exact st
/-- a thing of a world lies in the heap -/
theorem vx_lt {D : va_G} {cl : List vw_C} {ws : va_W} {H1 : Heap} (h : va_P D cl ws H1) {k : Nat} {q : Nat × va_E} (hk : ws[k]? = some q) : q.1 < H1.size := (h k q hk).lt
end VXS
/-! ===== END ===== -/
/-! ===== BEGIN methods with a table of their own: called by a name, returning or throwing ===== -/
section VXH
/-! vx_backW, vx_callVX, vx_callSX, vx_callVW, vx_runVW, vx_runVX, vx_runSX, vx_ofWH follow the same proofs as their sisters above (Free/Laws.lean, Shelf42/LK1.lean); vx_outP calls Shelf42/NT130.lean (outThrough). -/
section
variable {l : Launch} {R : Room} {p : Program} {e : Env} {below : List Frame} {s : State} {sargs : Array Value} {y : MethodName} {len W9 : Nat}
theorem vx_backW {ws : List Cond} {rm : Room} {Pc : Array Value → State → Prop} {Qc : Array Value → State → Outcome → State → Prop} {XC : String → State → State → Prop} {mc ms : Nat} {free : Addr → Prop} {bytes : ByteArray} {maxL : Nat} {ret : Option FieldType} {hh : List (Nat × Nat × Nat × Nat)}
    (hM : vx_Met l y ws rm Pc Qc XC mc ms free) (hblind : FrameBlind Pc) (hrc : rm.cells = mc) (hrs : rm.slots = ms)
    (hframes : rm.frames + 1 ≤ R.frames) (hlocals : W9 + (maxL + 11) + rm.locals ≤ R.locals)
    (hws : ∀ w ∈ ws, ∀ a' U, s.WarmedH U.vm → w.before a' U = true) (hcode : Cond.codeWith y bytes maxL ret hh ∈ ws) (hinit : ∀ a' U, s.WarmedH U.vm → (Cond.initialized y.cls).before a' U = true) :
    vx_Back l R p e below s sargs y len W9 (PreOf R mc ms Pc) (PostOf Qc mc ms free) (vx_Post XC mc ms free) := by
  intro m meth c A g ig mk a X hg hsize hdg hW hn hp
  have h1 : (headSpec ws rm).pre.before a A.U = true := atoms_intro fun w hw => hws w hw _ _ X.warmed
  have h2 : (Cond.codeWith y bytes maxL ret hh).before a A.U = true := hws _ hcode _ _ X.warmed
  have h3 : (Cond.initialized y.cls).before a A.U = true := hinit _ _ X.warmed
  have h4 : A.cells + (headSpec ws rm).room.cells ≤ R.cells := by rw [show (headSpec ws rm).room.cells = mc from hrc]; exact hp.1
  have h5 : A.slots + (headSpec ws rm).room.slots ≤ R.slots := by rw [show (headSpec ws rm).room.slots = ms from hrs]; exact hp.2.1
  have hPc : Pc a (A.U.calling g mk a) := hblind _ _ _ _ hp.2.2
  obtain ⟨U, Ls, c0, s0⟩ := A
  dsimp only [Pt.U, Pt.locs, Pt.cells, Pt.slots] at h1 h2 h3 h4 h5 X hn hPc ⊢
  obtain ⟨m9, methY, cY, hn9, hmY, hcY, -, hlY, -⟩ := Cond.codeWith_spec h2
  cases Option.some.inj (hn9.symm.trans hn)
  obtain ⟨kY, hkY, -⟩ := className_of_methodNamed hn
  have hinitY : kY.init = .initialized := Cond.initialized_spec (findClass_of_methodNamed hn) hkY h3
  have h : At U g.method c below := by rw [hg]; exact X.here
  have hlocals9 : W9 + (maxL + 11) + (headSpec ws rm).room.locals ≤ R.locals := hlocals
  have happ : (headSpec ws rm).appliesLoose y e.platform (U.calling g mk a) = true :=
    Spec.appliesLoose_calling (g := g) h hdg hn hkY hinitY
      (X.room_calling (g := g) (R' := (headSpec ws rm).room) hsize hmY hcY hframes (by rw [hlY]; omega) h4 h5) h1
  obtain ⟨mid, hmid⟩ := h.above
  have hfr : (U.setTop g).frames = (.java g :: mid) ++ below := by rw [State.frames_setTop' g h.top, hmid]; rfl
  obtain ⟨o, s₂, hsteps, -, hend, hq⟩ := Steps.callFree hM p X.admits X.cas X.clock (acts := []) hfr happ hPc trivial
  have hq' : vx_Q Qc XC mc ms free a (U.calling g mk a) o s₂ := hq
  rw [State.frames_setTop' g h.top] at hend
  obtain ⟨g₀, hg0⟩ := Option.isSome_iff_exists.mp h.top
  obtain ⟨r, hr⟩ := State.topJava?_eq_some.mp hg0
  have hr' : (({ U with heap := s₂.heap, slotsUsed := s₂.slotsUsed } : State).setVm s₂.vm).frames = .java g₀ :: r := hr
  rcases hq' with ⟨hqc, L, hfe, hL⟩ | ⟨q, rfl, E, ce, L, hx, hce, hcv, hcl, hW₂, hsm, hL⟩
  · obtain ⟨⟨v, rfl⟩, hW₂, e2, q2, q3, q4, q5, q6⟩ := id hfe
    have e3 : s₂ = ({ (U.calling g mk a).setFrames s₂.frames with heap := s₂.heap, slotsUsed := s₂.slotsUsed } : State).setVm s₂.vm := by
      have : s₂ = ({ s₂ with vm := (U.calling g mk a).vm } : State).setVm s₂.vm := rfl
      rw [e2] at this
      exact this
    obtain ⟨c₂, i₂, len₂, hc₂, hd₂, hf₂⟩ := hend
    have hW' : U.WarmedH s₂.vm := hW₂
    have hcc : c₂ = c := by
      have h1 : s₂.code? g.method = U.code? g.method := by
        rw [State.code?_eq, State.code?_eq, hW'.alike.method?]
      exact Option.some.inj (hc₂.symm.trans (h1.trans h.code))
    subst hcc
    have hlen : len₂ = len := by rw [hdg] at hd₂; cases hd₂; rfl
    subst hlen
    have hs₂ : s₂ = (({ U with heap := s₂.heap, slotsUsed := s₂.slotsUsed } : State).setVm s₂.vm).setTop { g with pc := g.pc + len₂, stack := v.toList ++ g.stack } := by
      refine e3.trans ?_
      rw [hf₂, State.calling_eq h.top, State.setFrames_setFrames, State.setTop_of_frames _ hr', hr]
      rfl
    have hsame : U.sameButNew ({ U with heap := s₂.heap, slotsUsed := s₂.slotsUsed } : State) L mc ms := by
      refine ⟨?_, q2, q3, q4, q5, q6⟩
      obtain ⟨t, ht, -⟩ := State.frames_cons hr
      show ({ U with heap := s₂.heap, slotsUsed := s₂.slotsUsed } : State) = { U.setFrames U.frames with heap := s₂.heap, slotsUsed := s₂.slotsUsed }
      rw [State.setFrames_self ht]
    subst hg
    refine Or.inl ⟨v, ⟨(({ U with heap := s₂.heap, slotsUsed := s₂.slotsUsed } : State).setVm s₂.vm), Ls ++ L, c0 + mc, s0 + ms⟩,
      ⟨X.admits, X.cas, X.clock, X.frames, X.room, X.hears, X.method, X.code, (X.here.setHeapUsed s₂.heap s₂.slotsUsed).setVm hW'.alike, X.tail, State.WarmedH.trans X.warmed hW', X.limits, X.bytes, X.same.trans (hsame.setVm s.vm)⟩,
      ⟨g, mk, s₂, L, rfl, rfl, hqc, rfl, hL, rfl, rfl⟩, ?_⟩
    show Steps p.tables e below _ ((({ U with heap := s₂.heap, slotsUsed := s₂.slotsUsed } : State).setVm s₂.vm).setTop { g with pc := g.pc + len₂, stack := v.toList ++ g.stack })
    rw [← hs₂]
    exact hsteps
  · obtain ⟨e2, q2, q3, q4, q5, q6⟩ := id hsm
    have e3 : s₂ = ({ (U.calling g mk a).setFrames s₂.frames with heap := s₂.heap, slotsUsed := s₂.slotsUsed } : State).setVm s₂.vm := by
      have : s₂ = ({ s₂ with vm := (U.calling g mk a).vm } : State).setVm s₂.vm := rfl
      rw [e2] at this
      exact this
    have hf₂ : s₂.frames = .throwing q :: .java g :: U.frames.tail := hend
    have hW' : U.WarmedH s₂.vm := hW₂
    have hs₂ : s₂ = ((({ U with heap := s₂.heap, slotsUsed := s₂.slotsUsed } : State).setVm s₂.vm).setTop g).pushFrame (.throwing q) := by
      refine e3.trans ?_
      rw [hf₂, State.calling_eq h.top, State.setFrames_setFrames, State.pushFrame, State.frames_setTop _ hr', State.setTop_of_frames _ hr', State.setFrames_setFrames, hr]
      rfl
    have hsame : U.sameButNew ({ U with heap := s₂.heap, slotsUsed := s₂.slotsUsed } : State) L mc ms := by
      refine ⟨?_, q2, q3, q4, q5, q6⟩
      obtain ⟨t, ht, -⟩ := State.frames_cons hr
      show ({ U with heap := s₂.heap, slotsUsed := s₂.slotsUsed } : State) = { U.setFrames U.frames with heap := s₂.heap, slotsUsed := s₂.slotsUsed }
      rw [State.setFrames_self ht]
    subst hg
    refine Or.inr ⟨q, ⟨(({ U with heap := s₂.heap, slotsUsed := s₂.slotsUsed } : State).setVm s₂.vm), Ls ++ L, c0 + mc, s0 + ms⟩,
      ⟨X.admits, X.cas, X.clock, X.frames, X.room, X.hears, X.method, X.code, (X.here.setHeapUsed s₂.heap s₂.slotsUsed).setVm hW'.alike, X.tail, State.WarmedH.trans X.warmed hW', X.limits, X.bytes, X.same.trans (hsame.setVm s.vm)⟩,
      ⟨g, mk, s₂, L, E, ce, rfl, rfl, hx, hce, hcv, hcl, rfl, hL, rfl, rfl⟩, ?_⟩
    show Steps p.tables e below _ (((({ U with heap := s₂.heap, slotsUsed := s₂.slotsUsed } : State).setVm s₂.vm).setTop g).pushFrame (.throwing q))
    rw [← hs₂]
    exact hsteps
end
variable {p : Program} {l : Launch} {e : Env} {R : Room} {s : State} {m : MethodId} {args : Array Value} {below : List Frame} {meth : Method} {c : Code} {T : State} {H : Heap} {locs : List Loc} {cells slots : Nat}
theorem vx_callVX (X : Stand p l e R s m args below meth c T locs cells slots) (hexec : p.tables.exec = Jvm.exec) {own C : String} {index : Nat} {y : MethodName} {bytes : ByteArray} {maxL : Nat} {ret : Option FieldType} {hh : List (Nat × Nat × Nat × Nat)}
    (hown : s.vm.findClass own = some m.cls) (hlink : (Cond.methodLink own index y).before args s = true) (hinst : (Cond.instanceMethod y).before args s = true) (hsel : (Cond.selects C y y).before args s = true)
    (hcode : (Cond.codeWith y bytes maxL ret hh).before args s = true) (hy : y.cls ≠ "java/lang/invoke/MethodHandle" ∧ y.cls ≠ "java/lang/invoke/VarHandle")
    {W9 : Nat} {Pre : Pt → Array Value → Prop} {Post : Pt → Array Value → Option Value → Pt → Prop} {PostX : Pt → Array Value → Addr → Pt → Prop} (hK : vx_Back l R p e below s args y 3 W9 Pre Post PostX)
    {b : Addr} {cellB : Cell} (hcell : T.heap[b]? = some cellB) (hobj : cellB.vm.isStatics = false) (hcls : s.vm.findClass C = some cellB.cls)
    {g : JFrame} (hg : g.method = m) (hsize : g.locals.size = c.maxLocals) {argsL rest : List Value} (hlen : ∀ sig, parseMethodDescriptor y.desc = some sig → argsL.length = sig.parameters.length)
    (hstack : g.stack = argsL.reverse ++ .ref b :: rest) (hW : 2 * g.monitorRoom + (rest.map fun v => v.category).sum ≤ W9) (hdg : decode c.code g.pc = .ok (.invokevirtual index, 3))
    (hpre : ∀ vm₁, s.WarmedH vm₁ → Pre ⟨T.setVm vm₁, locs, cells, slots⟩ (Value.ref b :: argsL).toArray) :
    (∃ (v : Option Value) (vm₁ : Vm) (B : Pt), s.WarmedH vm₁ ∧ Stand p l e R s m args below meth c B.U B.locs B.cells B.slots ∧ Post ⟨T.setVm vm₁, locs, cells, slots⟩ (Value.ref b :: argsL).toArray v B ∧
      ∀ target, Steps p.tables e below (B.U.setTop { g with pc := g.pc + 3, stack := v.toList ++ rest }) target → Steps p.tables e below (T.setTop g) target) ∨
    (∃ (q : Addr) (vm₁ : Vm) (B : Pt), s.WarmedH vm₁ ∧ Stand p l e R s m args below meth c B.U B.locs B.cells B.slots ∧ PostX ⟨T.setVm vm₁, locs, cells, slots⟩ (Value.ref b :: argsL).toArray q B ∧
      Steps p.tables e below (T.setTop g) ((B.U.setTop { g with stack := rest }).pushFrame (.throwing q))) := by
  obtain ⟨mk, methM, hnamed, hmethM, hstM, habM⟩ := Cond.instanceMethod_spec hinst
  obtain ⟨m8, methM', cM, hn8, hmethM', -, -, -, -, -, -, hsigM⟩ := Cond.codeWith_spec hcode
  cases Option.some.inj (hn8.symm.trans hnamed)
  cases hmethM.symm.trans hmethM'
  obtain ⟨c2, r2, m2, q1, q2, q3, q4, kP, hkP, hkPi⟩ := Cond.selects_spec hsel
  cases hcls.symm.trans q1
  cases (State.methodFound?_of_named hnamed hy).symm.trans q2
  cases hnamed.symm.trans q3
  have hselP : selectMethod e.platform s.vm cellB.cls mk = .method mk := by rw [Launch.admits_selectMethod X.admits]; exact q4
  obtain ⟨vm₁, X₁, hstep₁⟩ := X.invokevirtual hexec hown hlink hnamed hmethM hstM hkP hkPi hy (a := b) (cell := cellB) hcell
    (fun z h => by rw [h] at hobj; cases hobj) hselP hmethM habM hkP hkPi (g := g) hg (argsL := argsL) (rest := rest) (hlen _ hsigM) hstack hdg
  rcases hK m meth c ⟨T.setVm vm₁, locs, cells, slots⟩ { g with stack := rest } (.invokevirtual index) mk (Value.ref b :: argsL).toArray X₁ hg hsize hdg hW (X₁.named hnamed) (hpre vm₁ X₁.warmed) with ⟨v, B, X', hpost, hsteps⟩ | ⟨q, B, X', hpost, hsteps⟩
  · exact Or.inl ⟨v, vm₁, B, X₁.warmed, X', hpost, fun target h => hstep₁ _ fun acts => by rw [doInvoke_state]; exact hsteps.trans h⟩
  · exact Or.inr ⟨q, vm₁, B, X₁.warmed, X', hpost, hstep₁ _ fun acts => by rw [doInvoke_state]; exact hsteps⟩
theorem vx_callSX (X : Stand p l e R s m args below meth c T locs cells slots) (hexec : p.tables.exec = Jvm.exec) {own : String} {index : Nat} {y : MethodName} {bytes : ByteArray} {maxL : Nat} {ret : Option FieldType} {hh : List (Nat × Nat × Nat × Nat)}
    (hown : s.vm.findClass own = some m.cls) (hlink : (Cond.methodLink own index y).before args s = true) (hstat : (Cond.static y).before args s = true) (hinit : (Cond.initialized y.cls).before args s = true)
    (hcode : (Cond.codeWith y bytes maxL ret hh).before args s = true) (hy : y.cls ≠ "java/lang/invoke/MethodHandle" ∧ y.cls ≠ "java/lang/invoke/VarHandle")
    {W9 : Nat} {Pre : Pt → Array Value → Prop} {Post : Pt → Array Value → Option Value → Pt → Prop} {PostX : Pt → Array Value → Addr → Pt → Prop} (hK : vx_Back l R p e below s args y 3 W9 Pre Post PostX)
    {g : JFrame} (hg : g.method = m) (hsize : g.locals.size = c.maxLocals) {argsL rest : List Value} (hlen : ∀ sig, parseMethodDescriptor y.desc = some sig → argsL.length = sig.parameters.length)
    (hstack : g.stack = argsL.reverse ++ rest) (hW : 2 * g.monitorRoom + (rest.map fun v => v.category).sum ≤ W9) (hdg : decode c.code g.pc = .ok (.invokestatic index, 3))
    (hpre : ∀ vm₁, s.WarmedH vm₁ → Pre ⟨T.setVm vm₁, locs, cells, slots⟩ argsL.toArray) :
    (∃ (v : Option Value) (vm₁ : Vm) (B : Pt), s.WarmedH vm₁ ∧ Stand p l e R s m args below meth c B.U B.locs B.cells B.slots ∧ Post ⟨T.setVm vm₁, locs, cells, slots⟩ argsL.toArray v B ∧
      ∀ target, Steps p.tables e below (B.U.setTop { g with pc := g.pc + 3, stack := v.toList ++ rest }) target → Steps p.tables e below (T.setTop g) target) ∨
    (∃ (q : Addr) (vm₁ : Vm) (B : Pt), s.WarmedH vm₁ ∧ Stand p l e R s m args below meth c B.U B.locs B.cells B.slots ∧ PostX ⟨T.setVm vm₁, locs, cells, slots⟩ argsL.toArray q B ∧
      Steps p.tables e below (T.setTop g) ((B.U.setTop { g with stack := rest }).pushFrame (.throwing q))) := by
  obtain ⟨mk, methM, cM, hnamed, hmethM, -, -, -, -, -, -, hsigM⟩ := Cond.codeWith_spec hcode
  have hstatic : methM.isStatic = true := Cond.static_spec hnamed hmethM hstat
  obtain ⟨kP, hkP, -⟩ := className_of_methodNamed hnamed
  have hinitP : kP.init = .initialized := Cond.initialized_spec (findClass_of_methodNamed hnamed) hkP hinit
  obtain ⟨vm₁, X₁, hstep₁⟩ := X.invokestatic hexec hown hlink hnamed hmethM hstatic hkP hinitP hy (g := g) hg (argsL := argsL) (rest := rest) (hlen _ hsigM) hstack hdg
  rcases hK m meth c ⟨T.setVm vm₁, locs, cells, slots⟩ { g with stack := rest } (.invokestatic index) mk argsL.toArray X₁ hg hsize hdg hW (X₁.named hnamed) (hpre vm₁ X₁.warmed) with ⟨v, B, X', hpost, hsteps⟩ | ⟨q, B, X', hpost, hsteps⟩
  · exact Or.inl ⟨v, vm₁, B, X₁.warmed, X', hpost, fun target h => hstep₁ _ fun acts => by rw [doInvoke_state]; exact hsteps.trans h⟩
  · exact Or.inr ⟨q, vm₁, B, X₁.warmed, X', hpost, hstep₁ _ fun acts => by rw [doInvoke_state]; exact hsteps⟩
theorem vx_callVW (X : Stand p l e R s m args below meth c T locs cells slots) (hexec : p.tables.exec = Jvm.exec) {own C : String} {index : Nat} {y : MethodName} {bytes : ByteArray} {maxL : Nat} {ret : Option FieldType} {hh : List (Nat × Nat × Nat × Nat)}
    (hown : s.vm.findClass own = some m.cls) (hlink : (Cond.methodLink own index y).before args s = true) (hinst : (Cond.instanceMethod y).before args s = true) (hsel : (Cond.selects C y y).before args s = true)
    (hcode : (Cond.codeWith y bytes maxL ret hh).before args s = true) (hy : y.cls ≠ "java/lang/invoke/MethodHandle" ∧ y.cls ≠ "java/lang/invoke/VarHandle")
    {W9 : Nat} {Pre : Pt → Array Value → Prop} {Post : Pt → Array Value → Option Value → Pt → Prop} (hK : Back l R p e below s args y 3 W9 Pre Post)
    {b : Addr} {cellB : Cell} (hcell : T.heap[b]? = some cellB) (hobj : cellB.vm.isStatics = false) (hcls : s.vm.findClass C = some cellB.cls)
    {g : JFrame} (hg : g.method = m) (hsize : g.locals.size = c.maxLocals) {argsL rest : List Value} (hlen : ∀ sig, parseMethodDescriptor y.desc = some sig → argsL.length = sig.parameters.length)
    (hstack : g.stack = argsL.reverse ++ .ref b :: rest) (hW : 2 * g.monitorRoom + (rest.map fun v => v.category).sum ≤ W9) (hdg : decode c.code g.pc = .ok (.invokevirtual index, 3))
    (hpre : ∀ vm₁, s.WarmedH vm₁ → Pre ⟨T.setVm vm₁, locs, cells, slots⟩ (Value.ref b :: argsL).toArray) :
    ∃ (v : Option Value) (vm₁ : Vm) (B : Pt), s.WarmedH vm₁ ∧ Stand p l e R s m args below meth c B.U B.locs B.cells B.slots ∧ Post ⟨T.setVm vm₁, locs, cells, slots⟩ (Value.ref b :: argsL).toArray v B ∧
      ∀ target, Steps p.tables e below (B.U.setTop { g with pc := g.pc + 3, stack := v.toList ++ rest }) target → Steps p.tables e below (T.setTop g) target := by
  obtain ⟨mk, methM, hnamed, hmethM, hstM, habM⟩ := Cond.instanceMethod_spec hinst
  obtain ⟨m8, methM', cM, hn8, hmethM', -, -, -, -, -, -, hsigM⟩ := Cond.codeWith_spec hcode
  cases Option.some.inj (hn8.symm.trans hnamed)
  cases hmethM.symm.trans hmethM'
  obtain ⟨c2, r2, m2, q1, q2, q3, q4, kP, hkP, hkPi⟩ := Cond.selects_spec hsel
  cases hcls.symm.trans q1
  cases (State.methodFound?_of_named hnamed hy).symm.trans q2
  cases hnamed.symm.trans q3
  have hselP : selectMethod e.platform s.vm cellB.cls mk = .method mk := by rw [Launch.admits_selectMethod X.admits]; exact q4
  obtain ⟨vm₁, X₁, hstep₁⟩ := X.invokevirtual hexec hown hlink hnamed hmethM hstM hkP hkPi hy (a := b) (cell := cellB) hcell
    (fun z h => by rw [h] at hobj; cases hobj) hselP hmethM habM hkP hkPi (g := g) hg (argsL := argsL) (rest := rest) (hlen _ hsigM) hstack hdg
  obtain ⟨v, B, X', hpost, hsteps⟩ := hK m meth c ⟨T.setVm vm₁, locs, cells, slots⟩ { g with stack := rest } (.invokevirtual index) mk (Value.ref b :: argsL).toArray X₁ hg hsize hdg hW (X₁.named hnamed) (hpre vm₁ X₁.warmed)
  exact ⟨v, vm₁, B, X₁.warmed, X', hpost, fun target h => hstep₁ _ fun acts => by rw [doInvoke_state]; exact hsteps.trans h⟩
abbrev vx_CVW (R : Room) (s : State) (args : Array Value) (own C : String) (index : Nat) (y : MethodName) (bytes : ByteArray) (maxL : Nat) (ret : Option FieldType) (hh : List (Nat × Nat × Nat × Nat)) (ws : List Cond) (rm : Room) (mc ms n : Nat) : Prop :=
  (rm.cells = mc ∧ rm.slots = ms ∧ rm.frames + 1 ≤ R.frames ∧ 8 + (maxL + 11) + rm.locals ≤ R.locals ∧ (∀ w ∈ ws, ∀ (a' : Array Value) (U : State), s.WarmedH U.vm → w.before a' U = true) ∧ Cond.codeWith y bytes maxL ret hh ∈ ws) ∧
  (Cond.codeWith y bytes maxL ret hh).before args s = true ∧ (Cond.initialized y.cls).before args s = true ∧ (y.cls ≠ "java/lang/invoke/MethodHandle" ∧ y.cls ≠ "java/lang/invoke/VarHandle") ∧
  (∀ sig, parseMethodDescriptor y.desc = some sig → n = sig.parameters.length) ∧ (Cond.methodLink own index y).before args s = true ∧ (Cond.instanceMethod y).before args s = true ∧ (Cond.selects C y y).before args s = true
theorem vx_cwVW {own C : String} {index maxL mc ms : Nat} {y : MethodName} {bytes : ByteArray} {ret : Option FieldType} {hh : List (Nat × Nat × Nat × Nat)} {Ts ws ws' : List Cond} {rm : Room} (n : Nat) (ht : ∀ w ∈ Ts, w.before args s = true) (hT : GoodIn Ts (wsV own index C y ws)) (hw : ws = Cond.codeWith y bytes maxL ret hh :: ws') (hrc : rm.cells = mc) (hrs : rm.slots = ms)
    (hd : y.cls = C ∧ y.cls ≠ "java/lang/invoke/MethodHandle" ∧ y.cls ≠ "java/lang/invoke/VarHandle" ∧ (parseMethodDescriptor y.desc).map (fun d => d.parameters.length) = some n) (hR : rm.frames + 1 ≤ R.frames ∧ 8 + (maxL + 11) + rm.locals ≤ R.locals) :
    vx_CVW R s args own C index y bytes maxL ret hh ws rm mc ms n := by
  obtain ⟨hC, hd⟩ := hd
  subst hC
  have ok : ∀ w ∈ wsV own index y.cls y ws, w.before args s = true := fun w h => ht w (hT w h).1
  have hG : GoodIn Ts ws := fun w h => hT w (by unfold wsV; exact List.mem_append_right _ h)
  have hc : Cond.codeWith y bytes maxL ret hh ∈ ws := by rw [hw]; exact List.mem_cons_self
  refine ⟨⟨hrc, hrs, hR.1, hR.2, pay_in ht hG, hc⟩, ht _ (hG _ hc).1, ok _ (by simp [wsV]), ⟨hd.1, hd.2.1⟩, fun sig h => ?_, ok _ (by simp [wsV]), ok _ (by simp [wsV]), ok _ (by simp [wsV])⟩
  have h2 := hd.2.2
  rw [h] at h2
  exact (Option.some.inj h2).symm
theorem vx_runVW {y : MethodName} {bytes cc : ByteArray} {maxL nL mc ms n index : Nat} {ret : Option FieldType} {hh : List (Nat × Nat × Nat × Nat)} {ws : List Cond} {rm : Room} {Pc : Array Value → State → Prop} {Qc : Array Value → State → Outcome → State → Prop} {free : Addr → Prop} {Ts : List Cond} {own C : String} {b : Addr} {As rest : List Value} {g : JFrame}
    (S : CallFix p m c cc nL s args Ts own) (hM : Met l y ws rm Pc Qc mc ms free) (cw : vx_CVW R s args own C index y bytes maxL ret hh ws rm mc ms n) (hp : PreV s H C b Pc As)
    (hg : g.method = m) (hn : As.length = n) (hsize : g.locals.size = nL) (hstack : g.stack = As.reverse ++ .ref b :: rest) (hW : 2 * g.monitorRoom + (rest.map fun v => v.category).sum ≤ 8) (hdg : decode cc g.pc = .ok (.invokevirtual index, 3)) (hf : cells + mc ≤ R.cells ∧ slots + ms ≤ R.slots) :
    va_Run p l e R s m args below meth c H locs cells slots mc ms g rest (Qc (Value.ref b :: As).toArray) free := by
  obtain ⟨⟨hrc, hrs, hfr, hlo, hws, hcw⟩, hcode, hini, hy, hlen, hl, hin, hse⟩ := cw
  have hK : Back l R p e below s args y 3 8 (PreOf R mc ms Pc) (PostOf Qc mc ms free) := va_backW (hh := hh) (bytes := bytes) (maxL := maxL) (ret := ret) hM hp.1 hrc hrs hfr hlo hws hcw (fun a' U hW => word_at hW (Or.inl (by first | rfl | simp [Cond.onTables, Cond.keeps, Cond.steady])) hini)
  obtain ⟨hx, hb, hml, ho, -⟩ := S
  obtain ⟨-, ⟨cellB, hcB, hoB, hclB⟩, hPc⟩ := hp
  intro T hT X
  obtain ⟨v, vm₁, ⟨U', l2, c2, s2⟩, hW₁, X', ⟨g', mk, t, L, e1, e2, hq, h1, hL, h2, h3⟩, st⟩ := vx_callVW X hx (C := C) (hh := hh) (bytes := bytes) (maxL := maxL) (ret := ret) ho hl hin hse hcode hy hK (by rw [hT]; exact hcB) hoB hclB hg (hsize.trans hml.symm) (argsL := As) (rest := rest) (fun sig h => hn.trans (hlen sig h)) hstack hW (by rw [hb]; exact hdg)
    (fun vm₁ hW₁ => ⟨hf.1, hf.2, hPc (T.setVm vm₁) hT hW₁⟩)
  dsimp only [Pt.U, Pt.locs, Pt.cells, Pt.slots] at X' e1 e2 h1 h2 h3 st
  subst h1; subst h2; subst h3
  exact ⟨v, (T.setVm vm₁).calling g' mk (Value.ref b :: As).toArray, t, U', L, hT, X', hL, e1, e2, hq, st⟩
section
variable {y : MethodName} {bytes cc : ByteArray} {maxL nL mc ms n index : Nat} {ret : Option FieldType} {ws : List Cond} {rm : Room} {Pc : Array Value → State → Prop} {Qc : Array Value → State → Outcome → State → Prop} {XC : String → State → State → Prop} {free : Addr → Prop} {Ts : List Cond} {own C : String} {b : Addr} {As rest : List Value} {g : JFrame}
theorem vx_runVX {hh : List (Nat × Nat × Nat × Nat)} (S : CallFix p m c cc nL s args Ts own) (hM : vx_Met l y ws rm Pc Qc XC mc ms free) (cw : vx_CVW R s args own C index y bytes maxL ret hh ws rm mc ms n) (hp : PreV s H C b Pc As)
    (hg : g.method = m) (hn : As.length = n) (hsize : g.locals.size = nL) (hstack : g.stack = As.reverse ++ .ref b :: rest) (hW : 2 * g.monitorRoom + (rest.map fun v => v.category).sum ≤ 8) (hdg : decode cc g.pc = .ok (.invokevirtual index, 3)) (hf : cells + mc ≤ R.cells ∧ slots + ms ≤ R.slots) :
    vx_Run p l e R s m args below meth c H locs cells slots mc ms g rest (Qc (Value.ref b :: As).toArray) XC free := by
  obtain ⟨⟨hrc, hrs, hfr, hlo, hws, hcw⟩, hcode, hini, hy, hlen, hl, hin, hse⟩ := cw
  have hK : vx_Back l R p e below s args y 3 8 (PreOf R mc ms Pc) (PostOf Qc mc ms free) (vx_Post XC mc ms free) := vx_backW (hh := hh) (bytes := bytes) (maxL := maxL) (ret := ret) hM hp.1 hrc hrs hfr hlo hws hcw (fun a' U hW => word_at hW (Or.inl (by first | rfl | simp [Cond.onTables, Cond.keeps, Cond.steady])) hini)
  obtain ⟨hx, hb, hml, ho, -⟩ := S
  obtain ⟨-, ⟨cellB, hcB, hoB, hclB⟩, hPc⟩ := hp
  intro T hT X
  rcases vx_callVX X hx (C := C) (hh := hh) (bytes := bytes) (maxL := maxL) (ret := ret) ho hl hin hse hcode hy hK (by rw [hT]; exact hcB) hoB hclB hg (hsize.trans hml.symm) (argsL := As) (rest := rest) (fun sig h => hn.trans (hlen sig h)) hstack hW (by rw [hb]; exact hdg)
    (fun vm₁ hW₁ => ⟨hf.1, hf.2, hPc (T.setVm vm₁) hT hW₁⟩) with ⟨v, vm₁, ⟨U', l2, c2, s2⟩, hW₁, X', ⟨g', mk, t, L, e1, e2, hq, h1, hL, h2, h3⟩, st⟩ | ⟨q, vm₁, ⟨U', l2, c2, s2⟩, hW₁, X', ⟨g', mk, t, L, E, ce, e1, e2, hq, hce, hcv, hcl, h1, hL, h2, h3⟩, st⟩
  · dsimp only [Pt.U, Pt.locs, Pt.cells, Pt.slots] at X' e1 e2 h1 h2 h3 st
    subst h1; subst h2; subst h3
    exact Or.inl ⟨v, (T.setVm vm₁).calling g' mk (Value.ref b :: As).toArray, t, U', L, hT, X', hL, e1, e2, hq, st⟩
  · dsimp only [Pt.U, Pt.locs, Pt.cells, Pt.slots] at X' e1 e2 h1 h2 h3 st hcl
    subst h1; subst h2; subst h3
    exact Or.inr ⟨q, (T.setVm vm₁).calling g' mk (Value.ref b :: As).toArray, t, U', L, E, ce, hT, X', hL, e1, e2, hq, hce, hcv, vx_cls hW₁ hcl, st⟩
theorem vx_runSX {hh : List (Nat × Nat × Nat × Nat)} (S : CallFix p m c cc nL s args Ts own) (hM : vx_Met l y ws rm Pc Qc XC mc ms free) (cw : vx_CSW R s args own index y bytes maxL ret hh ws rm mc ms n) (hp : PreS s H Pc As)
    (hg : g.method = m) (hn : As.length = n) (hsize : g.locals.size = nL) (hstack : g.stack = As.reverse ++ rest) (hW : 2 * g.monitorRoom + (rest.map fun v => v.category).sum ≤ 8) (hdg : decode cc g.pc = .ok (.invokestatic index, 3)) (hf : cells + mc ≤ R.cells ∧ slots + ms ≤ R.slots) :
    vx_Run p l e R s m args below meth c H locs cells slots mc ms g rest (Qc As.toArray) XC free := by
  obtain ⟨⟨hrc, hrs, hfr, hlo, hws, hcw⟩, hcode, hini, hy, hlen, hl, hstt⟩ := cw
  have hK : vx_Back l R p e below s args y 3 8 (PreOf R mc ms Pc) (PostOf Qc mc ms free) (vx_Post XC mc ms free) := vx_backW (hh := hh) (bytes := bytes) (maxL := maxL) (ret := ret) hM hp.1 hrc hrs hfr hlo hws hcw (fun a' U hW => word_at hW (Or.inl (by first | rfl | simp [Cond.onTables, Cond.keeps, Cond.steady])) hini)
  obtain ⟨hx, hb, hml, ho, -⟩ := S
  intro T hT X
  rcases vx_callSX X hx (hh := hh) (bytes := bytes) (maxL := maxL) (ret := ret) ho hl hstt hini hcode hy hK hg (hsize.trans hml.symm) (argsL := As) (rest := rest) (fun sig h => hn.trans (hlen sig h)) hstack hW (by rw [hb]; exact hdg)
    (fun vm₁ hW₁ => ⟨hf.1, hf.2, hp.2 (T.setVm vm₁) hT hW₁⟩) with ⟨v, vm₁, ⟨U', l2, c2, s2⟩, hW₁, X', ⟨g', mk, t, L, e1, e2, hq, h1, hL, h2, h3⟩, st⟩ | ⟨q, vm₁, ⟨U', l2, c2, s2⟩, hW₁, X', ⟨g', mk, t, L, E, ce, e1, e2, hq, hce, hcv, hcl, h1, hL, h2, h3⟩, st⟩
  · dsimp only [Pt.U, Pt.locs, Pt.cells, Pt.slots] at X' e1 e2 h1 h2 h3 st
    subst h1; subst h2; subst h3
    exact Or.inl ⟨v, (T.setVm vm₁).calling g' mk As.toArray, t, U', L, hT, X', hL, e1, e2, hq, st⟩
  · dsimp only [Pt.U, Pt.locs, Pt.cells, Pt.slots] at X' e1 e2 h1 h2 h3 st hcl
    subst h1; subst h2; subst h3
    exact Or.inr ⟨q, (T.setVm vm₁).calling g' mk As.toArray, t, U', L, E, ce, hT, X', hL, e1, e2, hq, hce, hcv, vx_cls hW₁ hcl, st⟩
end
end VXH
theorem vx_ofWH {l : Launch} {y : MethodName} {ws ws' : List Cond} {rm : Room} {Pc : Array Value → State → Prop} {Qc : Array Value → State → Outcome → State → Prop} {XC : String → State → State → Prop} {mc ms : Nat} {free : Addr → Prop} {cc : ByteArray} {maxL : Nat} {ret : Option FieldType} {hh : List (Nat × Nat × Nat × Nat)}
    (hy : plainName y.cls = true) (hw : ws = Cond.codeWith y cc maxL ret hh :: ws')
    (body : ∀ p e s m args below meth c s₁, BodyLoose p l y (headSpec ws rm) cc maxL ret e s m args below meth c s₁ → c.maxLocals = maxL → Pc args s →
      W p l e (headSpec ws rm).room s m args below meth c s.heap [] 0 0 (vx_MQ below Qc XC args s mc ms free) (entryFrame m args maxL)) : vx_Met l y ws rm Pc Qc XC mc ms free := by
  refine MetFree.of_bodyS (code := cc) (maxLocals := maxL) (ret := ret) hy ?_ ?_
  · intro args s m h hn
    obtain ⟨m9, meth, c, hn9, h1, h2, h3, h4, -, h5, h6, -⟩ := Cond.codeWith_spec (atoms_spec (ws := ws) h _ (by rw [hw]; exact List.mem_cons_self))
    cases hn.symm.trans hn9
    exact ⟨meth, c, h1, h2, h3, h4, h5, h6⟩
  · intro p e s m args below meth c s₁ B hml hP _
    have hh0 : s₁.heap = s.heap := by rw [B.state]; rfl
    obtain ⟨t, a1, o, b1, b2, b3⟩ := body p e s m args below meth c s₁ B hml hP s₁ hh0 (Stand.of_body B)
    exact ⟨t, o, a1, b1, b2, b3⟩
/-! ===== END ===== -/
end
section
def R_Row : String := "LikelyBits$Row"
def T_Row : u_T := fun k => match k with
  | 0 => ("LikelyBits$Row", "cells", "[I", false)
  | _ => ("LikelyBits$Row", "used", "I", false)
def ty_Row : Nat → FieldType := fun k => match k with
  | 0 => .array .int
  | _ => .int
theorem nm_Row : ∀ a, a < 2 → ∀ b, b < 2 → a ≠ b → (T_Row a).2.1 ≠ (T_Row b).2.1 := by decide +kernel
theorem tyok_Row : ∀ k, k < 2 → parseFieldDescriptor (T_Row k).2.2.1 = some (ty_Row k) := by decide +kernel
def R_Cxt : String := "LikelyBits$Contexts"
def T_Cxt : u_T := fun k => match k with
  | 0 => ("LikelyBits$Contexts", "states", "[I", true)
  | _ => ("LikelyBits$Contexts", "likelyBits", "[I", true)
def ty_Cxt : Nat → FieldType := fun k => match k with
  | 0 => .array .int
  | _ => .array .int
theorem nm_Cxt : ∀ a, a < 2 → ∀ b, b < 2 → a ≠ b → (T_Cxt a).2.1 ≠ (T_Cxt b).2.1 := by decide +kernel
theorem tyok_Cxt : ∀ k, k < 2 → parseFieldDescriptor (T_Cxt k).2.2.1 = some (ty_Cxt k) := by decide +kernel
def R_Seg : String := "LikelyBits$Segment"
def T_Seg : u_T := fun k => match k with
  | 0 => ("LikelyBits$Segment", "row", "LLikelyBits$Row;", true)
  | _ => ("LikelyBits$Segment", "start", "I", false)
def ty_Seg : Nat → FieldType := fun k => match k with
  | 0 => .object "LikelyBits$Row"
  | _ => .int
theorem nm_Seg : ∀ a, a < 2 → ∀ b, b < 2 → a ≠ b → (T_Seg a).2.1 ≠ (T_Seg b).2.1 := by decide +kernel
theorem tyok_Seg : ∀ k, k < 2 → parseFieldDescriptor (T_Seg k).2.2.1 = some (ty_Seg k) := by decide +kernel
def R_Src : String := "LikelyBits$Source"
def T_Src : u_T := fun k => match k with
  | 0 => ("LikelyBits$Source", "row", "LLikelyBits$Row;", true)
  | 1 => ("LikelyBits$Source", "place", "I", false)
  | 2 => ("LikelyBits$Source", "length", "I", false)
  | _ => ("LikelyBits$Source", "came", "I", false)
def ty_Src : Nat → FieldType := fun k => match k with
  | 0 => .object "LikelyBits$Row"
  | 1 => .int
  | 2 => .int
  | _ => .int
theorem nm_Src : ∀ a, a < 4 → ∀ b, b < 4 → a ≠ b → (T_Src a).2.1 ≠ (T_Src b).2.1 := by decide +kernel
theorem tyok_Src : ∀ k, k < 4 → parseFieldDescriptor (T_Src k).2.2.1 = some (ty_Src k) := by decide +kernel
def R_CWr : String := "LikelyBits$CodedWriter"
def T_CWr : u_T := fun k => match k with
  | 0 => ("LikelyBits$CodedWriter", "segment", "LLikelyBits$Segment;", true)
  | 1 => ("LikelyBits$CodedWriter", "contexts", "LLikelyBits$Contexts;", true)
  | 2 => ("LikelyBits$CodedWriter", "low", "I", false)
  | 3 => ("LikelyBits$CodedWriter", "size", "I", false)
  | _ => ("LikelyBits$CodedWriter", "room", "I", false)
def ty_CWr : Nat → FieldType := fun k => match k with
  | 0 => .object "LikelyBits$Segment"
  | 1 => .object "LikelyBits$Contexts"
  | 2 => .int
  | 3 => .int
  | _ => .int
theorem nm_CWr : ∀ a, a < 5 → ∀ b, b < 5 → a ≠ b → (T_CWr a).2.1 ≠ (T_CWr b).2.1 := by decide +kernel
theorem tyok_CWr : ∀ k, k < 5 → parseFieldDescriptor (T_CWr k).2.2.1 = some (ty_CWr k) := by decide +kernel
def R_CRd : String := "LikelyBits$CodedReader"
def T_CRd : u_T := fun k => match k with
  | 0 => ("LikelyBits$CodedReader", "source", "LLikelyBits$Source;", true)
  | 1 => ("LikelyBits$CodedReader", "contexts", "LLikelyBits$Contexts;", true)
  | 2 => ("LikelyBits$CodedReader", "last", "I", false)
  | 3 => ("LikelyBits$CodedReader", "value", "I", false)
  | 4 => ("LikelyBits$CodedReader", "size", "I", false)
  | _ => ("LikelyBits$CodedReader", "room", "I", false)
def ty_CRd : Nat → FieldType := fun k => match k with
  | 0 => .object "LikelyBits$Source"
  | 1 => .object "LikelyBits$Contexts"
  | 2 => .int
  | 3 => .int
  | 4 => .int
  | _ => .int
theorem nm_CRd : ∀ a, a < 6 → ∀ b, b < 6 → a ≠ b → (T_CRd a).2.1 ≠ (T_CRd b).2.1 := by decide +kernel
theorem tyok_CRd : ∀ k, k < 6 → parseFieldDescriptor (T_CRd k).2.2.1 = some (ty_CRd k) := by decide +kernel
def R_RWr : String := "LikelyBits$RawWriter"
def T_RWr : u_T := fun k => match k with
  | 0 => ("LikelyBits$RawWriter", "segment", "LLikelyBits$Segment;", true)
  | _ => ("LikelyBits$RawWriter", "room", "I", false)
def ty_RWr : Nat → FieldType := fun k => match k with
  | 0 => .object "LikelyBits$Segment"
  | _ => .int
theorem nm_RWr : ∀ a, a < 2 → ∀ b, b < 2 → a ≠ b → (T_RWr a).2.1 ≠ (T_RWr b).2.1 := by decide +kernel
theorem tyok_RWr : ∀ k, k < 2 → parseFieldDescriptor (T_RWr k).2.2.1 = some (ty_RWr k) := by decide +kernel
def R_RRd : String := "LikelyBits$RawReader"
def T_RRd : u_T := fun k => match k with
  | 0 => ("LikelyBits$RawReader", "source", "LLikelyBits$Source;", true)
  | 1 => ("LikelyBits$RawReader", "last", "I", false)
  | _ => ("LikelyBits$RawReader", "left", "I", false)
def ty_RRd : Nat → FieldType := fun k => match k with
  | 0 => .object "LikelyBits$Source"
  | 1 => .int
  | _ => .int
theorem nm_RRd : ∀ a, a < 3 → ∀ b, b < 3 → a ≠ b → (T_RRd a).2.1 ≠ (T_RRd b).2.1 := by decide +kernel
theorem tyok_RRd : ∀ k, k < 3 → parseFieldDescriptor (T_RRd k).2.2.1 = some (ty_RRd k) := by decide +kernel
def R_LB : String := "LikelyBits"
def T_LB : u_T := fun k => match k with
  | 0 => ("LikelyBits", "row", "LLikelyBits$Row;", true)
  | 1 => ("LikelyBits", "writerContexts", "LLikelyBits$Contexts;", true)
  | 2 => ("LikelyBits", "readerContexts", "LLikelyBits$Contexts;", true)
  | 3 => ("LikelyBits", "segment", "LLikelyBits$Segment;", true)
  | 4 => ("LikelyBits", "codedWriter", "LLikelyBits$CodedWriter;", true)
  | 5 => ("LikelyBits", "rawWriter", "LLikelyBits$RawWriter;", true)
  | 6 => ("LikelyBits", "source", "LLikelyBits$Source;", true)
  | 7 => ("LikelyBits", "codedReader", "LLikelyBits$CodedReader;", true)
  | 8 => ("LikelyBits", "rawReader", "LLikelyBits$RawReader;", true)
  | 9 => ("LikelyBits", "segmentOpen", "Z", false)
  | 10 => ("LikelyBits", "segmentRaw", "Z", false)
  | 11 => ("LikelyBits", "sourceRead", "Z", false)
  | _ => ("LikelyBits", "sourceRaw", "Z", false)
def ty_LB : Nat → FieldType := fun k => match k with
  | 0 => .object "LikelyBits$Row"
  | 1 => .object "LikelyBits$Contexts"
  | 2 => .object "LikelyBits$Contexts"
  | 3 => .object "LikelyBits$Segment"
  | 4 => .object "LikelyBits$CodedWriter"
  | 5 => .object "LikelyBits$RawWriter"
  | 6 => .object "LikelyBits$Source"
  | 7 => .object "LikelyBits$CodedReader"
  | 8 => .object "LikelyBits$RawReader"
  | 9 => .boolean
  | 10 => .boolean
  | 11 => .boolean
  | _ => .boolean
theorem nm_LB : ∀ a, a < 13 → ∀ b, b < 13 → a ≠ b → (T_LB a).2.1 ≠ (T_LB b).2.1 := by decide +kernel
theorem tyok_LB : ∀ k, k < 13 → parseFieldDescriptor (T_LB k).2.2.1 = some (ty_LB k) := by decide +kernel
def R_Mdl : String := "LikelyBitsModel"
def T_Mdl : u_T := fun k => match k with
  | 0 => ("LikelyBitsModel", "part", "[I", true)
  | 1 => ("LikelyBitsModel", "other", "[I", true)
  | 2 => ("LikelyBitsModel", "thrown", "I", false)
  | 3 => ("LikelyBitsModel", "size", "I", false)
  | 4 => ("LikelyBitsModel", "bytes", "[I", true)
  | 5 => ("LikelyBitsModel", "states", "[I", true)
  | 6 => ("LikelyBitsModel", "likely", "[I", true)
  | 7 => ("LikelyBitsModel", "open", "Z", false)
  | 8 => ("LikelyBitsModel", "raw", "Z", false)
  | 9 => ("LikelyBitsModel", "begin", "I", false)
  | 10 => ("LikelyBitsModel", "low", "I", false)
  | 11 => ("LikelyBitsModel", "carried", "Z", false)
  | 12 => ("LikelyBitsModel", "wide", "I", false)
  | 13 => ("LikelyBitsModel", "room", "I", false)
  | 14 => ("LikelyBitsModel", "reading", "Z", false)
  | 15 => ("LikelyBitsModel", "rawRead", "Z", false)
  | 16 => ("LikelyBitsModel", "place", "I", false)
  | 17 => ("LikelyBitsModel", "limit", "I", false)
  | 18 => ("LikelyBitsModel", "next", "I", false)
  | 19 => ("LikelyBitsModel", "above", "J", false)
  | 20 => ("LikelyBitsModel", "span", "I", false)
  | 21 => ("LikelyBitsModel", "left", "I", false)
  | _ => ("LikelyBitsModel", "last", "I", false)
def ty_Mdl : Nat → FieldType := fun k => match k with
  | 0 => .array .int
  | 1 => .array .int
  | 2 => .int
  | 3 => .int
  | 4 => .array .int
  | 5 => .array .int
  | 6 => .array .int
  | 7 => .boolean
  | 8 => .boolean
  | 9 => .int
  | 10 => .int
  | 11 => .boolean
  | 12 => .int
  | 13 => .int
  | 14 => .boolean
  | 15 => .boolean
  | 16 => .int
  | 17 => .int
  | 18 => .int
  | 19 => .long
  | 20 => .int
  | 21 => .int
  | _ => .int
theorem nm_Mdl : ∀ a, a < 23 → ∀ b, b < 23 → a ≠ b → (T_Mdl a).2.1 ≠ (T_Mdl b).2.1 := by decide +kernel
theorem tyok_Mdl : ∀ k, k < 23 → parseFieldDescriptor (T_Mdl k).2.2.1 = some (ty_Mdl k) := by decide +kernel
def R_Law : String := "LikelyBitsLaw"
def R_Arr : String := "java/util/Arrays"
abbrev b_Row_init : ByteArray := prog_7_method_1_code
def y_Row_init : MethodName := ⟨R_Row, "<init>", "()V"⟩
abbrev b_Row_count : ByteArray := prog_7_method_2_code
def y_Row_count : MethodName := ⟨R_Row, "count", "()I"⟩
abbrev b_Row_empty : ByteArray := prog_7_method_3_code
def y_Row_empty : MethodName := ⟨R_Row, "empty", "()V"⟩
abbrev b_Row_byteAt : ByteArray := prog_7_method_4_code
def y_Row_byteAt : MethodName := ⟨R_Row, "byteAt", "(I)I"⟩
abbrev b_Row_change : ByteArray := prog_7_method_5_code
def y_Row_change : MethodName := ⟨R_Row, "change", "(II)V"⟩
abbrev b_Row_append : ByteArray := prog_7_method_6_code
def y_Row_append : MethodName := ⟨R_Row, "append", "(I)V"⟩
abbrev b_Row_dropLast : ByteArray := prog_7_method_7_code
def y_Row_dropLast : MethodName := ⟨R_Row, "dropLast", "()V"⟩
abbrev b_Cxt_init : ByteArray := prog_4_method_1_code
def y_Cxt_init : MethodName := ⟨R_Cxt, "<init>", "()V"⟩
abbrev b_Cxt_set : ByteArray := prog_4_method_2_code
def y_Cxt_set : MethodName := ⟨R_Cxt, "set", "(III)V"⟩
abbrev b_Cxt_stateOf : ByteArray := prog_4_method_3_code
def y_Cxt_stateOf : MethodName := ⟨R_Cxt, "stateOf", "(I)I"⟩
abbrev b_Cxt_likelyBitOf : ByteArray := prog_4_method_4_code
def y_Cxt_likelyBitOf : MethodName := ⟨R_Cxt, "likelyBitOf", "(I)I"⟩
abbrev b_Cxt_partOf : ByteArray := prog_4_method_5_code
def y_Cxt_partOf : MethodName := ⟨R_Cxt, "partOf", "(I)I"⟩
abbrev b_Cxt_afterLikely : ByteArray := prog_4_method_6_code
def y_Cxt_afterLikely : MethodName := ⟨R_Cxt, "afterLikely", "(I)V"⟩
abbrev b_Cxt_afterOther : ByteArray := prog_4_method_7_code
def y_Cxt_afterOther : MethodName := ⟨R_Cxt, "afterOther", "(I)V"⟩
abbrev b_Cxt_turns : ByteArray := prog_4_method_8_code
def y_Cxt_turns : MethodName := ⟨R_Cxt, "turns", "(I)Z"⟩
abbrev b_Cxt_entry : ByteArray := prog_4_method_9_code
def y_Cxt_entry : MethodName := ⟨R_Cxt, "entry", "([II)I"⟩
abbrev b_Seg_init : ByteArray := prog_8_method_1_code
def y_Seg_init : MethodName := ⟨R_Seg, "<init>", "(LLikelyBits$Row;)V"⟩
abbrev b_Seg_begin : ByteArray := prog_8_method_2_code
def y_Seg_begin : MethodName := ⟨R_Seg, "begin", "()V"⟩
abbrev b_Seg_length : ByteArray := prog_8_method_3_code
def y_Seg_length : MethodName := ⟨R_Seg, "length", "()I"⟩
abbrev b_Seg_last : ByteArray := prog_8_method_4_code
def y_Seg_last : MethodName := ⟨R_Seg, "last", "()I"⟩
abbrev b_Seg_changeLast : ByteArray := prog_8_method_5_code
def y_Seg_changeLast : MethodName := ⟨R_Seg, "changeLast", "(I)V"⟩
abbrev b_Seg_append : ByteArray := prog_8_method_6_code
def y_Seg_append : MethodName := ⟨R_Seg, "append", "(I)V"⟩
abbrev b_Seg_dropLastIfAllOnes : ByteArray := prog_8_method_7_code
def y_Seg_dropLastIfAllOnes : MethodName := ⟨R_Seg, "dropLastIfAllOnes", "()V"⟩
abbrev b_Src_init : ByteArray := prog_9_method_1_code
def y_Src_init : MethodName := ⟨R_Src, "<init>", "(LLikelyBits$Row;)V"⟩
abbrev b_Src_begin : ByteArray := prog_9_method_2_code
def y_Src_begin : MethodName := ⟨R_Src, "begin", "(II)V"⟩
abbrev b_Src_peek : ByteArray := prog_9_method_3_code
def y_Src_peek : MethodName := ⟨R_Src, "peek", "()I"⟩
abbrev b_Src_take : ByteArray := prog_9_method_4_code
def y_Src_take : MethodName := ⟨R_Src, "take", "()I"⟩
abbrev b_CWr_init : ByteArray := prog_3_method_1_code
def y_CWr_init : MethodName := ⟨R_CWr, "<init>", "(LLikelyBits$Segment;LLikelyBits$Contexts;)V"⟩
abbrev b_CWr_begin : ByteArray := prog_3_method_2_code
def y_CWr_begin : MethodName := ⟨R_CWr, "begin", "()V"⟩
abbrev b_CWr_add : ByteArray := prog_3_method_3_code
def y_CWr_add : MethodName := ⟨R_CWr, "add", "(II)V"⟩
abbrev b_CWr_addLikely : ByteArray := prog_3_method_4_code
def y_CWr_addLikely : MethodName := ⟨R_CWr, "addLikely", "(II)V"⟩
abbrev b_CWr_addOther : ByteArray := prog_3_method_5_code
def y_CWr_addOther : MethodName := ⟨R_CWr, "addOther", "(II)V"⟩
abbrev b_CWr_enlarge : ByteArray := prog_3_method_6_code
def y_CWr_enlarge : MethodName := ⟨R_CWr, "enlarge", "()V"⟩
abbrev b_CWr_byteOut : ByteArray := prog_3_method_7_code
def y_CWr_byteOut : MethodName := ⟨R_CWr, "byteOut", "()V"⟩
abbrev b_CWr_fillByteOut : ByteArray := prog_3_method_8_code
def y_CWr_fillByteOut : MethodName := ⟨R_CWr, "fillByteOut", "()V"⟩
abbrev b_CWr_endInWay0 : ByteArray := prog_3_method_9_code
def y_CWr_endInWay0 : MethodName := ⟨R_CWr, "endInWay0", "()V"⟩
abbrev b_CWr_endInWay1 : ByteArray := prog_3_method_10_code
def y_CWr_endInWay1 : MethodName := ⟨R_CWr, "endInWay1", "()V"⟩
abbrev b_CRd_init : ByteArray := prog_2_method_1_code
def y_CRd_init : MethodName := ⟨R_CRd, "<init>", "(LLikelyBits$Source;LLikelyBits$Contexts;)V"⟩
abbrev b_CRd_begin : ByteArray := prog_2_method_2_code
def y_CRd_begin : MethodName := ⟨R_CRd, "begin", "()V"⟩
abbrev b_CRd_byteIn : ByteArray := prog_2_method_3_code
def y_CRd_byteIn : MethodName := ⟨R_CRd, "byteIn", "()V"⟩
abbrev b_CRd_nextBit : ByteArray := prog_2_method_4_code
def y_CRd_nextBit : MethodName := ⟨R_CRd, "nextBit", "(I)I"⟩
abbrev b_CRd_enlarge : ByteArray := prog_2_method_5_code
def y_CRd_enlarge : MethodName := ⟨R_CRd, "enlarge", "()V"⟩
abbrev b_RWr_init : ByteArray := prog_6_method_1_code
def y_RWr_init : MethodName := ⟨R_RWr, "<init>", "(LLikelyBits$Segment;)V"⟩
abbrev b_RWr_begin : ByteArray := prog_6_method_2_code
def y_RWr_begin : MethodName := ⟨R_RWr, "begin", "()V"⟩
abbrev b_RWr_add : ByteArray := prog_6_method_3_code
def y_RWr_add : MethodName := ⟨R_RWr, "add", "(I)V"⟩
abbrev b_RWr_end : ByteArray := prog_6_method_4_code
def y_RWr_end : MethodName := ⟨R_RWr, "end", "()V"⟩
abbrev b_RRd_init : ByteArray := prog_5_method_1_code
def y_RRd_init : MethodName := ⟨R_RRd, "<init>", "(LLikelyBits$Source;)V"⟩
abbrev b_RRd_begin : ByteArray := prog_5_method_2_code
def y_RRd_begin : MethodName := ⟨R_RRd, "begin", "()V"⟩
abbrev b_RRd_nextBit : ByteArray := prog_5_method_3_code
def y_RRd_nextBit : MethodName := ⟨R_RRd, "nextBit", "()I"⟩
abbrev b_LB_init : ByteArray := prog_1_method_1_code
def y_LB_init : MethodName := ⟨R_LB, "<init>", "()V"⟩
abbrev b_LB_clear : ByteArray := prog_1_method_2_code
def y_LB_clear : MethodName := ⟨R_LB, "clear", "()V"⟩
abbrev b_LB_put : ByteArray := prog_1_method_3_code
def y_LB_put : MethodName := ⟨R_LB, "put", "(I)I"⟩
abbrev b_LB_at : ByteArray := prog_1_method_4_code
def y_LB_at : MethodName := ⟨R_LB, "at", "(I)I"⟩
abbrev b_LB_context : ByteArray := prog_1_method_5_code
def y_LB_context : MethodName := ⟨R_LB, "context", "(ZIII)V"⟩
abbrev b_LB_state : ByteArray := prog_1_method_6_code
def y_LB_state : MethodName := ⟨R_LB, "state", "(ZI)I"⟩
abbrev b_LB_open : ByteArray := prog_1_method_7_code
def y_LB_open : MethodName := ⟨R_LB, "open", "(Z)V"⟩
abbrev b_LB_write : ByteArray := prog_1_method_8_code
def y_LB_write : MethodName := ⟨R_LB, "write", "(IJI)I"⟩
abbrev b_LB_enough : ByteArray := prog_1_method_9_code
def y_LB_enough : MethodName := ⟨R_LB, "enough", "()I"⟩
abbrev b_LB_close : ByteArray := prog_1_method_10_code
def y_LB_close : MethodName := ⟨R_LB, "close", "(I)I"⟩
abbrev b_LB_read : ByteArray := prog_1_method_11_code
def y_LB_read : MethodName := ⟨R_LB, "read", "(ZII)V"⟩
abbrev b_LB_bits : ByteArray := prog_1_method_12_code
def y_LB_bits : MethodName := ⟨R_LB, "bits", "(II)J"⟩
abbrev b_LB_register : ByteArray := prog_1_method_13_code
def y_LB_register : MethodName := ⟨R_LB, "register", "(I)I"⟩
abbrev b_LB_roomOfSegment : ByteArray := prog_1_method_14_code
def y_LB_roomOfSegment : MethodName := ⟨R_LB, "roomOfSegment", "()I"⟩
abbrev b_LB_contextsOf : ByteArray := prog_1_method_15_code
def y_LB_contextsOf : MethodName := ⟨R_LB, "contextsOf", "(Z)LLikelyBits$Contexts;"⟩
abbrev b_LB_isContext : ByteArray := prog_1_method_16_code
def y_LB_isContext : MethodName := ⟨R_LB, "isContext", "(I)Z"⟩
abbrev b_LB_fits : ByteArray := prog_1_method_17_code
def y_LB_fits : MethodName := ⟨R_LB, "fits", "(IZ)Z"⟩
abbrev b_Mdl_init : ByteArray := prog_11_method_1_code
def y_Mdl_init : MethodName := ⟨R_Mdl, "<init>", "()V"⟩
abbrev b_Mdl_thrown : ByteArray := prog_11_method_2_code
def y_Mdl_thrown : MethodName := ⟨R_Mdl, "thrown", "()I"⟩
abbrev b_Mdl_throwing : ByteArray := prog_11_method_3_code
def y_Mdl_throwing : MethodName := ⟨R_Mdl, "throwing", "(ZZZ)Z"⟩
abbrev b_Mdl_out : ByteArray := prog_11_method_4_code
def y_Mdl_out : MethodName := ⟨R_Mdl, "out", "(III)Z"⟩
abbrev b_Mdl_clear : ByteArray := prog_11_method_5_code
def y_Mdl_clear : MethodName := ⟨R_Mdl, "clear", "()V"⟩
abbrev b_Mdl_put : ByteArray := prog_11_method_6_code
def y_Mdl_put : MethodName := ⟨R_Mdl, "put", "(I)I"⟩
abbrev b_Mdl_at : ByteArray := prog_11_method_7_code
def y_Mdl_at : MethodName := ⟨R_Mdl, "at", "(I)I"⟩
abbrev b_Mdl_context : ByteArray := prog_11_method_8_code
def y_Mdl_context : MethodName := ⟨R_Mdl, "context", "(ZIII)V"⟩
abbrev b_Mdl_state : ByteArray := prog_11_method_9_code
def y_Mdl_state : MethodName := ⟨R_Mdl, "state", "(ZI)I"⟩
abbrev b_Mdl_nextOf : ByteArray := prog_11_method_10_code
def y_Mdl_nextOf : MethodName := ⟨R_Mdl, "nextOf", "(I)I"⟩
abbrev b_Mdl_change : ByteArray := prog_11_method_11_code
def y_Mdl_change : MethodName := ⟨R_Mdl, "change", "(IZ)V"⟩
abbrev b_Mdl_doublings : ByteArray := prog_11_method_12_code
def y_Mdl_doublings : MethodName := ⟨R_Mdl, "doublings", "(I)I"⟩
abbrev b_Mdl_hasLast : ByteArray := prog_11_method_13_code
def y_Mdl_hasLast : MethodName := ⟨R_Mdl, "hasLast", "()Z"⟩
abbrev b_Mdl_takes : ByteArray := prog_11_method_14_code
def y_Mdl_takes : MethodName := ⟨R_Mdl, "takes", "()Z"⟩
abbrev b_Mdl_carry : ByteArray := prog_11_method_15_code
def y_Mdl_carry : MethodName := ⟨R_Mdl, "carry", "()I"⟩
abbrev b_Mdl_keep : ByteArray := prog_11_method_16_code
def y_Mdl_keep : MethodName := ⟨R_Mdl, "keep", "(I)V"⟩
abbrev b_Mdl_byteOut : ByteArray := prog_11_method_17_code
def y_Mdl_byteOut : MethodName := ⟨R_Mdl, "byteOut", "()V"⟩
abbrev b_Mdl_push : ByteArray := prog_11_method_18_code
def y_Mdl_push : MethodName := ⟨R_Mdl, "push", "()V"⟩
abbrev b_Mdl_writeCoded : ByteArray := prog_11_method_19_code
def y_Mdl_writeCoded : MethodName := ⟨R_Mdl, "writeCoded", "(II)V"⟩
abbrev b_Mdl_writeRaw : ByteArray := prog_11_method_20_code
def y_Mdl_writeRaw : MethodName := ⟨R_Mdl, "writeRaw", "(I)V"⟩
abbrev b_Mdl_open : ByteArray := prog_11_method_21_code
def y_Mdl_open : MethodName := ⟨R_Mdl, "open", "(Z)V"⟩
abbrev b_Mdl_write : ByteArray := prog_11_method_22_code
def y_Mdl_write : MethodName := ⟨R_Mdl, "write", "(IJI)I"⟩
abbrev b_Mdl_enough : ByteArray := prog_11_method_23_code
def y_Mdl_enough : MethodName := ⟨R_Mdl, "enough", "()I"⟩
abbrev b_Mdl_close : ByteArray := prog_11_method_24_code
def y_Mdl_close : MethodName := ⟨R_Mdl, "close", "(I)I"⟩
abbrev b_Mdl_byteAt : ByteArray := prog_11_method_25_code
def y_Mdl_byteAt : MethodName := ⟨R_Mdl, "byteAt", "(I)I"⟩
abbrev b_Mdl_read : ByteArray := prog_11_method_26_code
def y_Mdl_read : MethodName := ⟨R_Mdl, "read", "(ZII)V"⟩
abbrev b_Mdl_comesIn : ByteArray := prog_11_method_27_code
def y_Mdl_comesIn : MethodName := ⟨R_Mdl, "comesIn", "()I"⟩
abbrev b_Mdl_round : ByteArray := prog_11_method_28_code
def y_Mdl_round : MethodName := ⟨R_Mdl, "round", "()V"⟩
abbrev b_Mdl_readCoded : ByteArray := prog_11_method_29_code
def y_Mdl_readCoded : MethodName := ⟨R_Mdl, "readCoded", "(I)I"⟩
abbrev b_Mdl_readRaw : ByteArray := prog_11_method_30_code
def y_Mdl_readRaw : MethodName := ⟨R_Mdl, "readRaw", "()I"⟩
abbrev b_Mdl_bits : ByteArray := prog_11_method_31_code
def y_Mdl_bits : MethodName := ⟨R_Mdl, "bits", "(II)J"⟩
abbrev b_Mdl_register : ByteArray := prog_11_method_32_code
def y_Mdl_register : MethodName := ⟨R_Mdl, "register", "(I)I"⟩
abbrev b_Law_put : ByteArray := method_3_code
def y_Law_put : MethodName := ⟨R_Law, "put", "(LLikelyBits;I[J)I"⟩
abbrev b_Law_at : ByteArray := method_4_code
def y_Law_at : MethodName := ⟨R_Law, "at", "(LLikelyBits;I[J)I"⟩
abbrev b_Law_context : ByteArray := method_5_code
def y_Law_context : MethodName := ⟨R_Law, "context", "(LLikelyBits;ZIII)I"⟩
abbrev b_Law_state : ByteArray := method_6_code
def y_Law_state : MethodName := ⟨R_Law, "state", "(LLikelyBits;ZI[J)I"⟩
abbrev b_Law_open : ByteArray := method_7_code
def y_Law_open : MethodName := ⟨R_Law, "open", "(LLikelyBits;Z)I"⟩
abbrev b_Law_write : ByteArray := method_8_code
def y_Law_write : MethodName := ⟨R_Law, "write", "(LLikelyBits;IJI[J)I"⟩
abbrev b_Law_enough : ByteArray := method_9_code
def y_Law_enough : MethodName := ⟨R_Law, "enough", "(LLikelyBits;[J)I"⟩
abbrev b_Law_close : ByteArray := method_10_code
def y_Law_close : MethodName := ⟨R_Law, "close", "(LLikelyBits;I[J)I"⟩
abbrev b_Law_read : ByteArray := method_11_code
def y_Law_read : MethodName := ⟨R_Law, "read", "(LLikelyBits;ZII)I"⟩
abbrev b_Law_bits : ByteArray := method_12_code
def y_Law_bits : MethodName := ⟨R_Law, "bits", "(LLikelyBits;II[J)I"⟩
abbrev b_Law_law : ByteArray := code
def y_Law_law : MethodName := ⟨R_Law, "law", "([I)Z"⟩
abbrev b_Arr_copyOf : ByteArray := prog_23_method_123_code
def y_Arr_copyOf : MethodName := ⟨R_Arr, "copyOf", "([II)[I"⟩
abbrev vwCl : List vw_C := [(R_Row, T_Row, 2), (R_Cxt, T_Cxt, 2), (R_Seg, T_Seg, 2), (R_Src, T_Src, 4), (R_CWr, T_CWr, 5), (R_CRd, T_CRd, 6), (R_RWr, T_RWr, 2), (R_RRd, T_RRd, 3), (R_LB, T_LB, 13), (R_Mdl, T_Mdl, 23)]
def AW : List Cond := lw_tbl.filter goodWord
theorem inAW {w : Cond} (h : w ∈ lw_tbl) (g : goodWord w = true) : w ∈ AW := List.mem_filter.mpr ⟨h, g⟩
theorem AW_good {w : Cond} (h : w ∈ AW) : goodWord w = true := (List.mem_filter.mp h).2
set_option maxRecDepth 20000 in
theorem inw_Row : ∀ w ∈ u_ws R_Row T_Row 2, w ∈ AW := by decide +kernel
set_option maxRecDepth 20000 in
theorem inw_Cxt : ∀ w ∈ u_ws R_Cxt T_Cxt 2, w ∈ AW := by decide +kernel
set_option maxRecDepth 20000 in
theorem inw_Seg : ∀ w ∈ u_ws R_Seg T_Seg 2, w ∈ AW := by decide +kernel
set_option maxRecDepth 20000 in
theorem inw_Src : ∀ w ∈ u_ws R_Src T_Src 4, w ∈ AW := by decide +kernel
set_option maxRecDepth 20000 in
theorem inw_CWr : ∀ w ∈ u_ws R_CWr T_CWr 5, w ∈ AW := by decide +kernel
set_option maxRecDepth 20000 in
theorem inw_CRd : ∀ w ∈ u_ws R_CRd T_CRd 6, w ∈ AW := by decide +kernel
set_option maxRecDepth 20000 in
theorem inw_RWr : ∀ w ∈ u_ws R_RWr T_RWr 2, w ∈ AW := by decide +kernel
set_option maxRecDepth 20000 in
theorem inw_RRd : ∀ w ∈ u_ws R_RRd T_RRd 3, w ∈ AW := by decide +kernel
set_option maxRecDepth 20000 in
theorem inw_LB : ∀ w ∈ u_ws R_LB T_LB 13, w ∈ AW := by decide +kernel
set_option maxRecDepth 20000 in
theorem inw_Mdl : ∀ w ∈ u_ws R_Mdl T_Mdl 23, w ∈ AW := by decide +kernel
end
section
theorem d_Row_init_0 : decode b_Row_init 0 = .ok (.aload_n 0, 1) := by decide +kernel
theorem d_Row_init_1 : decode b_Row_init 1 = .ok (.invokespecial 3, 3) := by decide +kernel
theorem d_Row_init_4 : decode b_Row_init 4 = .ok (.aload_n 0, 1) := by decide +kernel
theorem d_Row_init_5 : decode b_Row_init 5 = .ok (.sipush 256, 3) := by decide +kernel
theorem d_Row_init_8 : decode b_Row_init 8 = .ok (.newarray .int, 2) := by decide +kernel
theorem d_Row_init_10 : decode b_Row_init 10 = .ok (.putfield 11, 3) := by decide +kernel
theorem d_Row_init_13 : decode b_Row_init 13 = .ok (.return_, 1) := by decide +kernel
theorem d_Row_count_0 : decode b_Row_count 0 = .ok (.aload_n 0, 1) := by decide +kernel
theorem d_Row_count_1 : decode b_Row_count 1 = .ok (.getfield 15, 3) := by decide +kernel
theorem d_Row_count_4 : decode b_Row_count 4 = .ok (.ireturn, 1) := by decide +kernel
theorem d_Row_empty_0 : decode b_Row_empty 0 = .ok (.aload_n 0, 1) := by decide +kernel
theorem d_Row_empty_1 : decode b_Row_empty 1 = .ok (.iconst 0, 1) := by decide +kernel
theorem d_Row_empty_2 : decode b_Row_empty 2 = .ok (.putfield 15, 3) := by decide +kernel
theorem d_Row_empty_5 : decode b_Row_empty 5 = .ok (.return_, 1) := by decide +kernel
theorem d_Row_byteAt_0 : decode b_Row_byteAt 0 = .ok (.iload_n 1, 1) := by decide +kernel
theorem d_Row_byteAt_1 : decode b_Row_byteAt 1 = .ok (.ifCond .lt 29, 3) := by decide +kernel
theorem d_Row_byteAt_4 : decode b_Row_byteAt 4 = .ok (.iload_n 1, 1) := by decide +kernel
theorem d_Row_byteAt_5 : decode b_Row_byteAt 5 = .ok (.aload_n 0, 1) := by decide +kernel
theorem d_Row_byteAt_6 : decode b_Row_byteAt 6 = .ok (.getfield 15, 3) := by decide +kernel
theorem d_Row_byteAt_9 : decode b_Row_byteAt 9 = .ok (.if_icmp .ge 21, 3) := by decide +kernel
theorem d_Row_byteAt_12 : decode b_Row_byteAt 12 = .ok (.iload_n 1, 1) := by decide +kernel
theorem d_Row_byteAt_13 : decode b_Row_byteAt 13 = .ok (.aload_n 0, 1) := by decide +kernel
theorem d_Row_byteAt_14 : decode b_Row_byteAt 14 = .ok (.getfield 11, 3) := by decide +kernel
theorem d_Row_byteAt_17 : decode b_Row_byteAt 17 = .ok (.arraylength, 1) := by decide +kernel
theorem d_Row_byteAt_18 : decode b_Row_byteAt 18 = .ok (.if_icmp .ge 12, 3) := by decide +kernel
theorem d_Row_byteAt_21 : decode b_Row_byteAt 21 = .ok (.aload_n 0, 1) := by decide +kernel
theorem d_Row_byteAt_22 : decode b_Row_byteAt 22 = .ok (.getfield 11, 3) := by decide +kernel
theorem d_Row_byteAt_25 : decode b_Row_byteAt 25 = .ok (.iload_n 1, 1) := by decide +kernel
theorem d_Row_byteAt_26 : decode b_Row_byteAt 26 = .ok (.iaload, 1) := by decide +kernel
theorem d_Row_byteAt_27 : decode b_Row_byteAt 27 = .ok (.goto 6, 3) := by decide +kernel
theorem d_Row_byteAt_30 : decode b_Row_byteAt 30 = .ok (.sipush 255, 3) := by decide +kernel
theorem d_Row_byteAt_33 : decode b_Row_byteAt 33 = .ok (.ireturn, 1) := by decide +kernel
theorem d_Row_change_0 : decode b_Row_change 0 = .ok (.iload_n 1, 1) := by decide +kernel
theorem d_Row_change_1 : decode b_Row_change 1 = .ok (.ifCond .lt 27, 3) := by decide +kernel
theorem d_Row_change_4 : decode b_Row_change 4 = .ok (.iload_n 1, 1) := by decide +kernel
theorem d_Row_change_5 : decode b_Row_change 5 = .ok (.aload_n 0, 1) := by decide +kernel
theorem d_Row_change_6 : decode b_Row_change 6 = .ok (.getfield 15, 3) := by decide +kernel
theorem d_Row_change_9 : decode b_Row_change 9 = .ok (.if_icmp .ge 19, 3) := by decide +kernel
theorem d_Row_change_12 : decode b_Row_change 12 = .ok (.iload_n 1, 1) := by decide +kernel
theorem d_Row_change_13 : decode b_Row_change 13 = .ok (.aload_n 0, 1) := by decide +kernel
theorem d_Row_change_14 : decode b_Row_change 14 = .ok (.getfield 11, 3) := by decide +kernel
theorem d_Row_change_17 : decode b_Row_change 17 = .ok (.arraylength, 1) := by decide +kernel
theorem d_Row_change_18 : decode b_Row_change 18 = .ok (.if_icmp .ge 10, 3) := by decide +kernel
theorem d_Row_change_21 : decode b_Row_change 21 = .ok (.aload_n 0, 1) := by decide +kernel
theorem d_Row_change_22 : decode b_Row_change 22 = .ok (.getfield 11, 3) := by decide +kernel
theorem d_Row_change_25 : decode b_Row_change 25 = .ok (.iload_n 1, 1) := by decide +kernel
theorem d_Row_change_26 : decode b_Row_change 26 = .ok (.iload_n 2, 1) := by decide +kernel
theorem d_Row_change_27 : decode b_Row_change 27 = .ok (.iastore, 1) := by decide +kernel
theorem d_Row_change_28 : decode b_Row_change 28 = .ok (.return_, 1) := by decide +kernel
theorem d_Row_append_0 : decode b_Row_append 0 = .ok (.aload_n 0, 1) := by decide +kernel
theorem d_Row_append_1 : decode b_Row_append 1 = .ok (.getfield 15, 3) := by decide +kernel
theorem d_Row_append_4 : decode b_Row_append 4 = .ok (.aload_n 0, 1) := by decide +kernel
theorem d_Row_append_5 : decode b_Row_append 5 = .ok (.getfield 11, 3) := by decide +kernel
theorem d_Row_append_8 : decode b_Row_append 8 = .ok (.arraylength, 1) := by decide +kernel
theorem d_Row_append_9 : decode b_Row_append 9 = .ok (.if_icmp .lt 36, 3) := by decide +kernel
theorem d_Row_append_12 : decode b_Row_append 12 = .ok (.aload_n 0, 1) := by decide +kernel
theorem d_Row_append_13 : decode b_Row_append 13 = .ok (.getfield 11, 3) := by decide +kernel
theorem d_Row_append_16 : decode b_Row_append 16 = .ok (.arraylength, 1) := by decide +kernel
theorem d_Row_append_17 : decode b_Row_append 17 = .ok (.ldc 19, 2) := by decide +kernel
theorem d_Row_append_19 : decode b_Row_append 19 = .ok (.if_icmp .ge 26, 3) := by decide +kernel
theorem d_Row_append_22 : decode b_Row_append 22 = .ok (.aload_n 0, 1) := by decide +kernel
theorem d_Row_append_23 : decode b_Row_append 23 = .ok (.aload_n 0, 1) := by decide +kernel
theorem d_Row_append_24 : decode b_Row_append 24 = .ok (.getfield 11, 3) := by decide +kernel
theorem d_Row_append_27 : decode b_Row_append 27 = .ok (.ldc 19, 2) := by decide +kernel
theorem d_Row_append_29 : decode b_Row_append 29 = .ok (.iconst 2, 1) := by decide +kernel
theorem d_Row_append_30 : decode b_Row_append 30 = .ok (.aload_n 0, 1) := by decide +kernel
theorem d_Row_append_31 : decode b_Row_append 31 = .ok (.getfield 11, 3) := by decide +kernel
theorem d_Row_append_34 : decode b_Row_append 34 = .ok (.arraylength, 1) := by decide +kernel
theorem d_Row_append_35 : decode b_Row_append 35 = .ok (.imul, 1) := by decide +kernel
theorem d_Row_append_36 : decode b_Row_append 36 = .ok (.invokestatic 20, 3) := by decide +kernel
theorem d_Row_append_39 : decode b_Row_append 39 = .ok (.invokestatic 26, 3) := by decide +kernel
theorem d_Row_append_42 : decode b_Row_append 42 = .ok (.putfield 11, 3) := by decide +kernel
theorem d_Row_append_45 : decode b_Row_append 45 = .ok (.aload_n 0, 1) := by decide +kernel
theorem d_Row_append_46 : decode b_Row_append 46 = .ok (.getfield 15, 3) := by decide +kernel
theorem d_Row_append_49 : decode b_Row_append 49 = .ok (.ifCond .lt 35, 3) := by decide +kernel
theorem d_Row_append_52 : decode b_Row_append 52 = .ok (.aload_n 0, 1) := by decide +kernel
theorem d_Row_append_53 : decode b_Row_append 53 = .ok (.getfield 15, 3) := by decide +kernel
theorem d_Row_append_56 : decode b_Row_append 56 = .ok (.aload_n 0, 1) := by decide +kernel
theorem d_Row_append_57 : decode b_Row_append 57 = .ok (.getfield 11, 3) := by decide +kernel
theorem d_Row_append_60 : decode b_Row_append 60 = .ok (.arraylength, 1) := by decide +kernel
theorem d_Row_append_61 : decode b_Row_append 61 = .ok (.if_icmp .ge 23, 3) := by decide +kernel
theorem d_Row_append_64 : decode b_Row_append 64 = .ok (.aload_n 0, 1) := by decide +kernel
theorem d_Row_append_65 : decode b_Row_append 65 = .ok (.getfield 11, 3) := by decide +kernel
theorem d_Row_append_68 : decode b_Row_append 68 = .ok (.aload_n 0, 1) := by decide +kernel
theorem d_Row_append_69 : decode b_Row_append 69 = .ok (.getfield 15, 3) := by decide +kernel
theorem d_Row_append_72 : decode b_Row_append 72 = .ok (.iload_n 1, 1) := by decide +kernel
theorem d_Row_append_73 : decode b_Row_append 73 = .ok (.iastore, 1) := by decide +kernel
theorem d_Row_append_74 : decode b_Row_append 74 = .ok (.aload_n 0, 1) := by decide +kernel
theorem d_Row_append_75 : decode b_Row_append 75 = .ok (.dup, 1) := by decide +kernel
theorem d_Row_append_76 : decode b_Row_append 76 = .ok (.getfield 15, 3) := by decide +kernel
theorem d_Row_append_79 : decode b_Row_append 79 = .ok (.iconst 1, 1) := by decide +kernel
theorem d_Row_append_80 : decode b_Row_append 80 = .ok (.iadd, 1) := by decide +kernel
theorem d_Row_append_81 : decode b_Row_append 81 = .ok (.putfield 15, 3) := by decide +kernel
theorem d_Row_append_84 : decode b_Row_append 84 = .ok (.return_, 1) := by decide +kernel
theorem d_Row_dropLast_0 : decode b_Row_dropLast 0 = .ok (.aload_n 0, 1) := by decide +kernel
theorem d_Row_dropLast_1 : decode b_Row_dropLast 1 = .ok (.getfield 15, 3) := by decide +kernel
theorem d_Row_dropLast_4 : decode b_Row_dropLast 4 = .ok (.ifCond .le 13, 3) := by decide +kernel
theorem d_Row_dropLast_7 : decode b_Row_dropLast 7 = .ok (.aload_n 0, 1) := by decide +kernel
theorem d_Row_dropLast_8 : decode b_Row_dropLast 8 = .ok (.dup, 1) := by decide +kernel
theorem d_Row_dropLast_9 : decode b_Row_dropLast 9 = .ok (.getfield 15, 3) := by decide +kernel
theorem d_Row_dropLast_12 : decode b_Row_dropLast 12 = .ok (.iconst 1, 1) := by decide +kernel
theorem d_Row_dropLast_13 : decode b_Row_dropLast 13 = .ok (.isub, 1) := by decide +kernel
theorem d_Row_dropLast_14 : decode b_Row_dropLast 14 = .ok (.putfield 15, 3) := by decide +kernel
theorem d_Row_dropLast_17 : decode b_Row_dropLast 17 = .ok (.return_, 1) := by decide +kernel
theorem d_Cxt_init_0 : decode b_Cxt_init 0 = .ok (.aload_n 0, 1) := by decide +kernel
theorem d_Cxt_init_1 : decode b_Cxt_init 1 = .ok (.invokespecial 3, 3) := by decide +kernel
theorem d_Cxt_init_4 : decode b_Cxt_init 4 = .ok (.aload_n 0, 1) := by decide +kernel
theorem d_Cxt_init_5 : decode b_Cxt_init 5 = .ok (.bipush 19, 2) := by decide +kernel
theorem d_Cxt_init_7 : decode b_Cxt_init 7 = .ok (.newarray .int, 2) := by decide +kernel
theorem d_Cxt_init_9 : decode b_Cxt_init 9 = .ok (.putfield 9, 3) := by decide +kernel
theorem d_Cxt_init_12 : decode b_Cxt_init 12 = .ok (.aload_n 0, 1) := by decide +kernel
theorem d_Cxt_init_13 : decode b_Cxt_init 13 = .ok (.bipush 19, 2) := by decide +kernel
theorem d_Cxt_init_15 : decode b_Cxt_init 15 = .ok (.newarray .int, 2) := by decide +kernel
theorem d_Cxt_init_17 : decode b_Cxt_init 17 = .ok (.putfield 15, 3) := by decide +kernel
theorem d_Cxt_init_20 : decode b_Cxt_init 20 = .ok (.return_, 1) := by decide +kernel
theorem d_Cxt_set_0 : decode b_Cxt_set 0 = .ok (.iload_n 1, 1) := by decide +kernel
theorem d_Cxt_set_1 : decode b_Cxt_set 1 = .ok (.ifCond .lt 35, 3) := by decide +kernel
theorem d_Cxt_set_4 : decode b_Cxt_set 4 = .ok (.iload_n 1, 1) := by decide +kernel
theorem d_Cxt_set_5 : decode b_Cxt_set 5 = .ok (.aload_n 0, 1) := by decide +kernel
theorem d_Cxt_set_6 : decode b_Cxt_set 6 = .ok (.getfield 9, 3) := by decide +kernel
theorem d_Cxt_set_9 : decode b_Cxt_set 9 = .ok (.arraylength, 1) := by decide +kernel
theorem d_Cxt_set_10 : decode b_Cxt_set 10 = .ok (.if_icmp .ge 26, 3) := by decide +kernel
theorem d_Cxt_set_13 : decode b_Cxt_set 13 = .ok (.iload_n 1, 1) := by decide +kernel
theorem d_Cxt_set_14 : decode b_Cxt_set 14 = .ok (.aload_n 0, 1) := by decide +kernel
theorem d_Cxt_set_15 : decode b_Cxt_set 15 = .ok (.getfield 15, 3) := by decide +kernel
theorem d_Cxt_set_18 : decode b_Cxt_set 18 = .ok (.arraylength, 1) := by decide +kernel
theorem d_Cxt_set_19 : decode b_Cxt_set 19 = .ok (.if_icmp .ge 17, 3) := by decide +kernel
theorem d_Cxt_set_22 : decode b_Cxt_set 22 = .ok (.aload_n 0, 1) := by decide +kernel
theorem d_Cxt_set_23 : decode b_Cxt_set 23 = .ok (.getfield 9, 3) := by decide +kernel
theorem d_Cxt_set_26 : decode b_Cxt_set 26 = .ok (.iload_n 1, 1) := by decide +kernel
theorem d_Cxt_set_27 : decode b_Cxt_set 27 = .ok (.iload_n 2, 1) := by decide +kernel
theorem d_Cxt_set_28 : decode b_Cxt_set 28 = .ok (.iastore, 1) := by decide +kernel
theorem d_Cxt_set_29 : decode b_Cxt_set 29 = .ok (.aload_n 0, 1) := by decide +kernel
theorem d_Cxt_set_30 : decode b_Cxt_set 30 = .ok (.getfield 15, 3) := by decide +kernel
theorem d_Cxt_set_33 : decode b_Cxt_set 33 = .ok (.iload_n 1, 1) := by decide +kernel
theorem d_Cxt_set_34 : decode b_Cxt_set 34 = .ok (.iload_n 3, 1) := by decide +kernel
theorem d_Cxt_set_35 : decode b_Cxt_set 35 = .ok (.iastore, 1) := by decide +kernel
theorem d_Cxt_set_36 : decode b_Cxt_set 36 = .ok (.return_, 1) := by decide +kernel
theorem d_Cxt_stateOf_0 : decode b_Cxt_stateOf 0 = .ok (.aload_n 0, 1) := by decide +kernel
theorem d_Cxt_stateOf_1 : decode b_Cxt_stateOf 1 = .ok (.getfield 9, 3) := by decide +kernel
theorem d_Cxt_stateOf_4 : decode b_Cxt_stateOf 4 = .ok (.iload_n 1, 1) := by decide +kernel
theorem d_Cxt_stateOf_5 : decode b_Cxt_stateOf 5 = .ok (.invokestatic 18, 3) := by decide +kernel
theorem d_Cxt_stateOf_8 : decode b_Cxt_stateOf 8 = .ok (.ireturn, 1) := by decide +kernel
theorem d_Cxt_likelyBitOf_0 : decode b_Cxt_likelyBitOf 0 = .ok (.aload_n 0, 1) := by decide +kernel
theorem d_Cxt_likelyBitOf_1 : decode b_Cxt_likelyBitOf 1 = .ok (.getfield 15, 3) := by decide +kernel
theorem d_Cxt_likelyBitOf_4 : decode b_Cxt_likelyBitOf 4 = .ok (.iload_n 1, 1) := by decide +kernel
theorem d_Cxt_likelyBitOf_5 : decode b_Cxt_likelyBitOf 5 = .ok (.invokestatic 18, 3) := by decide +kernel
theorem d_Cxt_likelyBitOf_8 : decode b_Cxt_likelyBitOf 8 = .ok (.ireturn, 1) := by decide +kernel
theorem d_Cxt_partOf_0 : decode b_Cxt_partOf 0 = .ok (.getstatic 22, 3) := by decide +kernel
theorem d_Cxt_partOf_3 : decode b_Cxt_partOf 3 = .ok (.aload_n 0, 1) := by decide +kernel
theorem d_Cxt_partOf_4 : decode b_Cxt_partOf 4 = .ok (.iload_n 1, 1) := by decide +kernel
theorem d_Cxt_partOf_5 : decode b_Cxt_partOf 5 = .ok (.invokevirtual 25, 3) := by decide +kernel
theorem d_Cxt_partOf_8 : decode b_Cxt_partOf 8 = .ok (.invokestatic 18, 3) := by decide +kernel
theorem d_Cxt_partOf_11 : decode b_Cxt_partOf 11 = .ok (.ireturn, 1) := by decide +kernel
theorem d_Cxt_afterLikely_0 : decode b_Cxt_afterLikely 0 = .ok (.aload_n 0, 1) := by decide +kernel
theorem d_Cxt_afterLikely_1 : decode b_Cxt_afterLikely 1 = .ok (.iload_n 1, 1) := by decide +kernel
theorem d_Cxt_afterLikely_2 : decode b_Cxt_afterLikely 2 = .ok (.getstatic 29, 3) := by decide +kernel
theorem d_Cxt_afterLikely_5 : decode b_Cxt_afterLikely 5 = .ok (.aload_n 0, 1) := by decide +kernel
theorem d_Cxt_afterLikely_6 : decode b_Cxt_afterLikely 6 = .ok (.iload_n 1, 1) := by decide +kernel
theorem d_Cxt_afterLikely_7 : decode b_Cxt_afterLikely 7 = .ok (.invokevirtual 25, 3) := by decide +kernel
theorem d_Cxt_afterLikely_10 : decode b_Cxt_afterLikely 10 = .ok (.invokestatic 18, 3) := by decide +kernel
theorem d_Cxt_afterLikely_13 : decode b_Cxt_afterLikely 13 = .ok (.aload_n 0, 1) := by decide +kernel
theorem d_Cxt_afterLikely_14 : decode b_Cxt_afterLikely 14 = .ok (.iload_n 1, 1) := by decide +kernel
theorem d_Cxt_afterLikely_15 : decode b_Cxt_afterLikely 15 = .ok (.invokevirtual 32, 3) := by decide +kernel
theorem d_Cxt_afterLikely_18 : decode b_Cxt_afterLikely 18 = .ok (.invokevirtual 35, 3) := by decide +kernel
theorem d_Cxt_afterLikely_21 : decode b_Cxt_afterLikely 21 = .ok (.return_, 1) := by decide +kernel
theorem d_Cxt_afterOther_0 : decode b_Cxt_afterOther 0 = .ok (.aload_n 0, 1) := by decide +kernel
theorem d_Cxt_afterOther_1 : decode b_Cxt_afterOther 1 = .ok (.iload_n 1, 1) := by decide +kernel
theorem d_Cxt_afterOther_2 : decode b_Cxt_afterOther 2 = .ok (.invokevirtual 25, 3) := by decide +kernel
theorem d_Cxt_afterOther_5 : decode b_Cxt_afterOther 5 = .ok (.istore_n 2, 1) := by decide +kernel
theorem d_Cxt_afterOther_6 : decode b_Cxt_afterOther 6 = .ok (.iload_n 2, 1) := by decide +kernel
theorem d_Cxt_afterOther_7 : decode b_Cxt_afterOther 7 = .ok (.invokestatic 39, 3) := by decide +kernel
theorem d_Cxt_afterOther_10 : decode b_Cxt_afterOther 10 = .ok (.ifCond .eq 13, 3) := by decide +kernel
theorem d_Cxt_afterOther_13 : decode b_Cxt_afterOther 13 = .ok (.iconst 1, 1) := by decide +kernel
theorem d_Cxt_afterOther_14 : decode b_Cxt_afterOther 14 = .ok (.aload_n 0, 1) := by decide +kernel
theorem d_Cxt_afterOther_15 : decode b_Cxt_afterOther 15 = .ok (.iload_n 1, 1) := by decide +kernel
theorem d_Cxt_afterOther_16 : decode b_Cxt_afterOther 16 = .ok (.invokevirtual 32, 3) := by decide +kernel
theorem d_Cxt_afterOther_19 : decode b_Cxt_afterOther 19 = .ok (.isub, 1) := by decide +kernel
theorem d_Cxt_afterOther_20 : decode b_Cxt_afterOther 20 = .ok (.goto 8, 3) := by decide +kernel
theorem d_Cxt_afterOther_23 : decode b_Cxt_afterOther 23 = .ok (.aload_n 0, 1) := by decide +kernel
theorem d_Cxt_afterOther_24 : decode b_Cxt_afterOther 24 = .ok (.iload_n 1, 1) := by decide +kernel
theorem d_Cxt_afterOther_25 : decode b_Cxt_afterOther 25 = .ok (.invokevirtual 32, 3) := by decide +kernel
theorem d_Cxt_afterOther_28 : decode b_Cxt_afterOther 28 = .ok (.istore_n 3, 1) := by decide +kernel
theorem d_Cxt_afterOther_29 : decode b_Cxt_afterOther 29 = .ok (.aload_n 0, 1) := by decide +kernel
theorem d_Cxt_afterOther_30 : decode b_Cxt_afterOther 30 = .ok (.iload_n 1, 1) := by decide +kernel
theorem d_Cxt_afterOther_31 : decode b_Cxt_afterOther 31 = .ok (.getstatic 43, 3) := by decide +kernel
theorem d_Cxt_afterOther_34 : decode b_Cxt_afterOther 34 = .ok (.iload_n 2, 1) := by decide +kernel
theorem d_Cxt_afterOther_35 : decode b_Cxt_afterOther 35 = .ok (.invokestatic 18, 3) := by decide +kernel
theorem d_Cxt_afterOther_38 : decode b_Cxt_afterOther 38 = .ok (.iload_n 3, 1) := by decide +kernel
theorem d_Cxt_afterOther_39 : decode b_Cxt_afterOther 39 = .ok (.invokevirtual 35, 3) := by decide +kernel
theorem d_Cxt_afterOther_42 : decode b_Cxt_afterOther 42 = .ok (.return_, 1) := by decide +kernel
theorem d_Cxt_turns_0 : decode b_Cxt_turns 0 = .ok (.iload_n 0, 1) := by decide +kernel
theorem d_Cxt_turns_1 : decode b_Cxt_turns 1 = .ok (.ifCond .eq 15, 3) := by decide +kernel
theorem d_Cxt_turns_4 : decode b_Cxt_turns 4 = .ok (.iload_n 0, 1) := by decide +kernel
theorem d_Cxt_turns_5 : decode b_Cxt_turns 5 = .ok (.bipush 6, 2) := by decide +kernel
theorem d_Cxt_turns_7 : decode b_Cxt_turns 7 = .ok (.if_icmp .eq 9, 3) := by decide +kernel
theorem d_Cxt_turns_10 : decode b_Cxt_turns 10 = .ok (.iload_n 0, 1) := by decide +kernel
theorem d_Cxt_turns_11 : decode b_Cxt_turns 11 = .ok (.bipush 14, 2) := by decide +kernel
theorem d_Cxt_turns_13 : decode b_Cxt_turns 13 = .ok (.if_icmp .ne 7, 3) := by decide +kernel
theorem d_Cxt_turns_16 : decode b_Cxt_turns 16 = .ok (.iconst 1, 1) := by decide +kernel
theorem d_Cxt_turns_17 : decode b_Cxt_turns 17 = .ok (.goto 4, 3) := by decide +kernel
theorem d_Cxt_turns_20 : decode b_Cxt_turns 20 = .ok (.iconst 0, 1) := by decide +kernel
theorem d_Cxt_turns_21 : decode b_Cxt_turns 21 = .ok (.ireturn, 1) := by decide +kernel
theorem d_Cxt_entry_0 : decode b_Cxt_entry 0 = .ok (.iload_n 1, 1) := by decide +kernel
theorem d_Cxt_entry_1 : decode b_Cxt_entry 1 = .ok (.ifCond .lt 15, 3) := by decide +kernel
theorem d_Cxt_entry_4 : decode b_Cxt_entry 4 = .ok (.iload_n 1, 1) := by decide +kernel
theorem d_Cxt_entry_5 : decode b_Cxt_entry 5 = .ok (.aload_n 0, 1) := by decide +kernel
theorem d_Cxt_entry_6 : decode b_Cxt_entry 6 = .ok (.arraylength, 1) := by decide +kernel
theorem d_Cxt_entry_7 : decode b_Cxt_entry 7 = .ok (.if_icmp .ge 9, 3) := by decide +kernel
theorem d_Cxt_entry_10 : decode b_Cxt_entry 10 = .ok (.aload_n 0, 1) := by decide +kernel
theorem d_Cxt_entry_11 : decode b_Cxt_entry 11 = .ok (.iload_n 1, 1) := by decide +kernel
theorem d_Cxt_entry_12 : decode b_Cxt_entry 12 = .ok (.iaload, 1) := by decide +kernel
theorem d_Cxt_entry_13 : decode b_Cxt_entry 13 = .ok (.goto 4, 3) := by decide +kernel
theorem d_Cxt_entry_16 : decode b_Cxt_entry 16 = .ok (.iconst 0, 1) := by decide +kernel
theorem d_Cxt_entry_17 : decode b_Cxt_entry 17 = .ok (.ireturn, 1) := by decide +kernel
theorem d_Seg_init_0 : decode b_Seg_init 0 = .ok (.aload_n 0, 1) := by decide +kernel
theorem d_Seg_init_1 : decode b_Seg_init 1 = .ok (.invokespecial 3, 3) := by decide +kernel
theorem d_Seg_init_4 : decode b_Seg_init 4 = .ok (.aload_n 0, 1) := by decide +kernel
theorem d_Seg_init_5 : decode b_Seg_init 5 = .ok (.aload_n 1, 1) := by decide +kernel
theorem d_Seg_init_6 : decode b_Seg_init 6 = .ok (.putfield 9, 3) := by decide +kernel
theorem d_Seg_init_9 : decode b_Seg_init 9 = .ok (.return_, 1) := by decide +kernel
theorem d_Seg_begin_0 : decode b_Seg_begin 0 = .ok (.aload_n 0, 1) := by decide +kernel
theorem d_Seg_begin_1 : decode b_Seg_begin 1 = .ok (.aload_n 0, 1) := by decide +kernel
theorem d_Seg_begin_2 : decode b_Seg_begin 2 = .ok (.getfield 9, 3) := by decide +kernel
theorem d_Seg_begin_5 : decode b_Seg_begin 5 = .ok (.invokevirtual 15, 3) := by decide +kernel
theorem d_Seg_begin_8 : decode b_Seg_begin 8 = .ok (.putfield 21, 3) := by decide +kernel
theorem d_Seg_begin_11 : decode b_Seg_begin 11 = .ok (.return_, 1) := by decide +kernel
theorem d_Seg_length_0 : decode b_Seg_length 0 = .ok (.aload_n 0, 1) := by decide +kernel
theorem d_Seg_length_1 : decode b_Seg_length 1 = .ok (.getfield 9, 3) := by decide +kernel
theorem d_Seg_length_4 : decode b_Seg_length 4 = .ok (.invokevirtual 15, 3) := by decide +kernel
theorem d_Seg_length_7 : decode b_Seg_length 7 = .ok (.aload_n 0, 1) := by decide +kernel
theorem d_Seg_length_8 : decode b_Seg_length 8 = .ok (.getfield 21, 3) := by decide +kernel
theorem d_Seg_length_11 : decode b_Seg_length 11 = .ok (.isub, 1) := by decide +kernel
theorem d_Seg_length_12 : decode b_Seg_length 12 = .ok (.ireturn, 1) := by decide +kernel
theorem d_Seg_last_0 : decode b_Seg_last 0 = .ok (.aload_n 0, 1) := by decide +kernel
theorem d_Seg_last_1 : decode b_Seg_last 1 = .ok (.invokevirtual 25, 3) := by decide +kernel
theorem d_Seg_last_4 : decode b_Seg_last 4 = .ok (.ifCond .le 22, 3) := by decide +kernel
theorem d_Seg_last_7 : decode b_Seg_last 7 = .ok (.aload_n 0, 1) := by decide +kernel
theorem d_Seg_last_8 : decode b_Seg_last 8 = .ok (.getfield 9, 3) := by decide +kernel
theorem d_Seg_last_11 : decode b_Seg_last 11 = .ok (.aload_n 0, 1) := by decide +kernel
theorem d_Seg_last_12 : decode b_Seg_last 12 = .ok (.getfield 9, 3) := by decide +kernel
theorem d_Seg_last_15 : decode b_Seg_last 15 = .ok (.invokevirtual 15, 3) := by decide +kernel
theorem d_Seg_last_18 : decode b_Seg_last 18 = .ok (.iconst 1, 1) := by decide +kernel
theorem d_Seg_last_19 : decode b_Seg_last 19 = .ok (.isub, 1) := by decide +kernel
theorem d_Seg_last_20 : decode b_Seg_last 20 = .ok (.invokevirtual 28, 3) := by decide +kernel
theorem d_Seg_last_23 : decode b_Seg_last 23 = .ok (.goto 4, 3) := by decide +kernel
theorem d_Seg_last_26 : decode b_Seg_last 26 = .ok (.iconst (-1), 1) := by decide +kernel
theorem d_Seg_last_27 : decode b_Seg_last 27 = .ok (.ireturn, 1) := by decide +kernel
theorem d_Seg_changeLast_0 : decode b_Seg_changeLast 0 = .ok (.aload_n 0, 1) := by decide +kernel
theorem d_Seg_changeLast_1 : decode b_Seg_changeLast 1 = .ok (.invokevirtual 25, 3) := by decide +kernel
theorem d_Seg_changeLast_4 : decode b_Seg_changeLast 4 = .ok (.ifCond .le 20, 3) := by decide +kernel
theorem d_Seg_changeLast_7 : decode b_Seg_changeLast 7 = .ok (.aload_n 0, 1) := by decide +kernel
theorem d_Seg_changeLast_8 : decode b_Seg_changeLast 8 = .ok (.getfield 9, 3) := by decide +kernel
theorem d_Seg_changeLast_11 : decode b_Seg_changeLast 11 = .ok (.aload_n 0, 1) := by decide +kernel
theorem d_Seg_changeLast_12 : decode b_Seg_changeLast 12 = .ok (.getfield 9, 3) := by decide +kernel
theorem d_Seg_changeLast_15 : decode b_Seg_changeLast 15 = .ok (.invokevirtual 15, 3) := by decide +kernel
theorem d_Seg_changeLast_18 : decode b_Seg_changeLast 18 = .ok (.iconst 1, 1) := by decide +kernel
theorem d_Seg_changeLast_19 : decode b_Seg_changeLast 19 = .ok (.isub, 1) := by decide +kernel
theorem d_Seg_changeLast_20 : decode b_Seg_changeLast 20 = .ok (.iload_n 1, 1) := by decide +kernel
theorem d_Seg_changeLast_21 : decode b_Seg_changeLast 21 = .ok (.invokevirtual 32, 3) := by decide +kernel
theorem d_Seg_changeLast_24 : decode b_Seg_changeLast 24 = .ok (.return_, 1) := by decide +kernel
theorem d_Seg_append_0 : decode b_Seg_append 0 = .ok (.aload_n 0, 1) := by decide +kernel
theorem d_Seg_append_1 : decode b_Seg_append 1 = .ok (.getfield 9, 3) := by decide +kernel
theorem d_Seg_append_4 : decode b_Seg_append 4 = .ok (.iload_n 1, 1) := by decide +kernel
theorem d_Seg_append_5 : decode b_Seg_append 5 = .ok (.invokevirtual 36, 3) := by decide +kernel
theorem d_Seg_append_8 : decode b_Seg_append 8 = .ok (.return_, 1) := by decide +kernel
theorem d_Seg_dropLastIfAllOnes_0 : decode b_Seg_dropLastIfAllOnes 0 = .ok (.aload_n 0, 1) := by decide +kernel
theorem d_Seg_dropLastIfAllOnes_1 : decode b_Seg_dropLastIfAllOnes 1 = .ok (.invokevirtual 40, 3) := by decide +kernel
theorem d_Seg_dropLastIfAllOnes_4 : decode b_Seg_dropLastIfAllOnes 4 = .ok (.sipush 255, 3) := by decide +kernel
theorem d_Seg_dropLastIfAllOnes_7 : decode b_Seg_dropLastIfAllOnes 7 = .ok (.if_icmp .ne 10, 3) := by decide +kernel
theorem d_Seg_dropLastIfAllOnes_10 : decode b_Seg_dropLastIfAllOnes 10 = .ok (.aload_n 0, 1) := by decide +kernel
theorem d_Seg_dropLastIfAllOnes_11 : decode b_Seg_dropLastIfAllOnes 11 = .ok (.getfield 9, 3) := by decide +kernel
theorem d_Seg_dropLastIfAllOnes_14 : decode b_Seg_dropLastIfAllOnes 14 = .ok (.invokevirtual 43, 3) := by decide +kernel
theorem d_Seg_dropLastIfAllOnes_17 : decode b_Seg_dropLastIfAllOnes 17 = .ok (.return_, 1) := by decide +kernel
theorem d_Src_init_0 : decode b_Src_init 0 = .ok (.aload_n 0, 1) := by decide +kernel
theorem d_Src_init_1 : decode b_Src_init 1 = .ok (.invokespecial 3, 3) := by decide +kernel
theorem d_Src_init_4 : decode b_Src_init 4 = .ok (.aload_n 0, 1) := by decide +kernel
theorem d_Src_init_5 : decode b_Src_init 5 = .ok (.aload_n 1, 1) := by decide +kernel
theorem d_Src_init_6 : decode b_Src_init 6 = .ok (.putfield 9, 3) := by decide +kernel
theorem d_Src_init_9 : decode b_Src_init 9 = .ok (.return_, 1) := by decide +kernel
theorem d_Src_begin_0 : decode b_Src_begin 0 = .ok (.aload_n 0, 1) := by decide +kernel
theorem d_Src_begin_1 : decode b_Src_begin 1 = .ok (.iload_n 1, 1) := by decide +kernel
theorem d_Src_begin_2 : decode b_Src_begin 2 = .ok (.putfield 15, 3) := by decide +kernel
theorem d_Src_begin_5 : decode b_Src_begin 5 = .ok (.aload_n 0, 1) := by decide +kernel
theorem d_Src_begin_6 : decode b_Src_begin 6 = .ok (.iload_n 2, 1) := by decide +kernel
theorem d_Src_begin_7 : decode b_Src_begin 7 = .ok (.putfield 19, 3) := by decide +kernel
theorem d_Src_begin_10 : decode b_Src_begin 10 = .ok (.aload_n 0, 1) := by decide +kernel
theorem d_Src_begin_11 : decode b_Src_begin 11 = .ok (.iconst 0, 1) := by decide +kernel
theorem d_Src_begin_12 : decode b_Src_begin 12 = .ok (.putfield 22, 3) := by decide +kernel
theorem d_Src_begin_15 : decode b_Src_begin 15 = .ok (.return_, 1) := by decide +kernel
theorem d_Src_peek_0 : decode b_Src_peek 0 = .ok (.aload_n 0, 1) := by decide +kernel
theorem d_Src_peek_1 : decode b_Src_peek 1 = .ok (.getfield 22, 3) := by decide +kernel
theorem d_Src_peek_4 : decode b_Src_peek 4 = .ok (.aload_n 0, 1) := by decide +kernel
theorem d_Src_peek_5 : decode b_Src_peek 5 = .ok (.getfield 19, 3) := by decide +kernel
theorem d_Src_peek_8 : decode b_Src_peek 8 = .ok (.if_icmp .ge 22, 3) := by decide +kernel
theorem d_Src_peek_11 : decode b_Src_peek 11 = .ok (.aload_n 0, 1) := by decide +kernel
theorem d_Src_peek_12 : decode b_Src_peek 12 = .ok (.getfield 9, 3) := by decide +kernel
theorem d_Src_peek_15 : decode b_Src_peek 15 = .ok (.aload_n 0, 1) := by decide +kernel
theorem d_Src_peek_16 : decode b_Src_peek 16 = .ok (.getfield 15, 3) := by decide +kernel
theorem d_Src_peek_19 : decode b_Src_peek 19 = .ok (.aload_n 0, 1) := by decide +kernel
theorem d_Src_peek_20 : decode b_Src_peek 20 = .ok (.getfield 22, 3) := by decide +kernel
theorem d_Src_peek_23 : decode b_Src_peek 23 = .ok (.iadd, 1) := by decide +kernel
theorem d_Src_peek_24 : decode b_Src_peek 24 = .ok (.invokevirtual 25, 3) := by decide +kernel
theorem d_Src_peek_27 : decode b_Src_peek 27 = .ok (.goto 6, 3) := by decide +kernel
theorem d_Src_peek_30 : decode b_Src_peek 30 = .ok (.sipush 255, 3) := by decide +kernel
theorem d_Src_peek_33 : decode b_Src_peek 33 = .ok (.ireturn, 1) := by decide +kernel
theorem d_Src_take_0 : decode b_Src_take 0 = .ok (.aload_n 0, 1) := by decide +kernel
theorem d_Src_take_1 : decode b_Src_take 1 = .ok (.invokevirtual 31, 3) := by decide +kernel
theorem d_Src_take_4 : decode b_Src_take 4 = .ok (.istore_n 1, 1) := by decide +kernel
theorem d_Src_take_5 : decode b_Src_take 5 = .ok (.aload_n 0, 1) := by decide +kernel
theorem d_Src_take_6 : decode b_Src_take 6 = .ok (.getfield 22, 3) := by decide +kernel
theorem d_Src_take_9 : decode b_Src_take 9 = .ok (.aload_n 0, 1) := by decide +kernel
theorem d_Src_take_10 : decode b_Src_take 10 = .ok (.getfield 19, 3) := by decide +kernel
theorem d_Src_take_13 : decode b_Src_take 13 = .ok (.if_icmp .ge 13, 3) := by decide +kernel
theorem d_Src_take_16 : decode b_Src_take 16 = .ok (.aload_n 0, 1) := by decide +kernel
theorem d_Src_take_17 : decode b_Src_take 17 = .ok (.dup, 1) := by decide +kernel
theorem d_Src_take_18 : decode b_Src_take 18 = .ok (.getfield 22, 3) := by decide +kernel
theorem d_Src_take_21 : decode b_Src_take 21 = .ok (.iconst 1, 1) := by decide +kernel
theorem d_Src_take_22 : decode b_Src_take 22 = .ok (.iadd, 1) := by decide +kernel
theorem d_Src_take_23 : decode b_Src_take 23 = .ok (.putfield 22, 3) := by decide +kernel
theorem d_Src_take_26 : decode b_Src_take 26 = .ok (.iload_n 1, 1) := by decide +kernel
theorem d_Src_take_27 : decode b_Src_take 27 = .ok (.ireturn, 1) := by decide +kernel
theorem d_CWr_init_0 : decode b_CWr_init 0 = .ok (.aload_n 0, 1) := by decide +kernel
theorem d_CWr_init_1 : decode b_CWr_init 1 = .ok (.invokespecial 3, 3) := by decide +kernel
theorem d_CWr_init_4 : decode b_CWr_init 4 = .ok (.aload_n 0, 1) := by decide +kernel
theorem d_CWr_init_5 : decode b_CWr_init 5 = .ok (.aload_n 1, 1) := by decide +kernel
theorem d_CWr_init_6 : decode b_CWr_init 6 = .ok (.putfield 9, 3) := by decide +kernel
theorem d_CWr_init_9 : decode b_CWr_init 9 = .ok (.aload_n 0, 1) := by decide +kernel
theorem d_CWr_init_10 : decode b_CWr_init 10 = .ok (.aload_n 2, 1) := by decide +kernel
theorem d_CWr_init_11 : decode b_CWr_init 11 = .ok (.putfield 15, 3) := by decide +kernel
theorem d_CWr_init_14 : decode b_CWr_init 14 = .ok (.return_, 1) := by decide +kernel
theorem d_CWr_begin_0 : decode b_CWr_begin 0 = .ok (.aload_n 0, 1) := by decide +kernel
theorem d_CWr_begin_1 : decode b_CWr_begin 1 = .ok (.iconst 0, 1) := by decide +kernel
theorem d_CWr_begin_2 : decode b_CWr_begin 2 = .ok (.putfield 19, 3) := by decide +kernel
theorem d_CWr_begin_5 : decode b_CWr_begin 5 = .ok (.aload_n 0, 1) := by decide +kernel
theorem d_CWr_begin_6 : decode b_CWr_begin 6 = .ok (.ldc 23, 2) := by decide +kernel
theorem d_CWr_begin_8 : decode b_CWr_begin 8 = .ok (.putfield 24, 3) := by decide +kernel
theorem d_CWr_begin_11 : decode b_CWr_begin 11 = .ok (.aload_n 0, 1) := by decide +kernel
theorem d_CWr_begin_12 : decode b_CWr_begin 12 = .ok (.bipush 12, 2) := by decide +kernel
theorem d_CWr_begin_14 : decode b_CWr_begin 14 = .ok (.putfield 27, 3) := by decide +kernel
theorem d_CWr_begin_17 : decode b_CWr_begin 17 = .ok (.return_, 1) := by decide +kernel
theorem d_CWr_add_0 : decode b_CWr_add 0 = .ok (.aload_n 0, 1) := by decide +kernel
theorem d_CWr_add_1 : decode b_CWr_add 1 = .ok (.getfield 15, 3) := by decide +kernel
theorem d_CWr_add_4 : decode b_CWr_add 4 = .ok (.iload_n 1, 1) := by decide +kernel
theorem d_CWr_add_5 : decode b_CWr_add 5 = .ok (.invokevirtual 30, 3) := by decide +kernel
theorem d_CWr_add_8 : decode b_CWr_add 8 = .ok (.istore_n 3, 1) := by decide +kernel
theorem d_CWr_add_9 : decode b_CWr_add 9 = .ok (.aload_n 0, 1) := by decide +kernel
theorem d_CWr_add_10 : decode b_CWr_add 10 = .ok (.dup, 1) := by decide +kernel
theorem d_CWr_add_11 : decode b_CWr_add 11 = .ok (.getfield 24, 3) := by decide +kernel
theorem d_CWr_add_14 : decode b_CWr_add 14 = .ok (.iload_n 3, 1) := by decide +kernel
theorem d_CWr_add_15 : decode b_CWr_add 15 = .ok (.isub, 1) := by decide +kernel
theorem d_CWr_add_16 : decode b_CWr_add 16 = .ok (.putfield 24, 3) := by decide +kernel
theorem d_CWr_add_19 : decode b_CWr_add 19 = .ok (.iload_n 2, 1) := by decide +kernel
theorem d_CWr_add_20 : decode b_CWr_add 20 = .ok (.aload_n 0, 1) := by decide +kernel
theorem d_CWr_add_21 : decode b_CWr_add 21 = .ok (.getfield 15, 3) := by decide +kernel
theorem d_CWr_add_24 : decode b_CWr_add 24 = .ok (.iload_n 1, 1) := by decide +kernel
theorem d_CWr_add_25 : decode b_CWr_add 25 = .ok (.invokevirtual 36, 3) := by decide +kernel
theorem d_CWr_add_28 : decode b_CWr_add 28 = .ok (.if_icmp .ne 12, 3) := by decide +kernel
theorem d_CWr_add_31 : decode b_CWr_add 31 = .ok (.aload_n 0, 1) := by decide +kernel
theorem d_CWr_add_32 : decode b_CWr_add 32 = .ok (.iload_n 1, 1) := by decide +kernel
theorem d_CWr_add_33 : decode b_CWr_add 33 = .ok (.iload_n 3, 1) := by decide +kernel
theorem d_CWr_add_34 : decode b_CWr_add 34 = .ok (.invokevirtual 39, 3) := by decide +kernel
theorem d_CWr_add_37 : decode b_CWr_add 37 = .ok (.goto 9, 3) := by decide +kernel
theorem d_CWr_add_40 : decode b_CWr_add 40 = .ok (.aload_n 0, 1) := by decide +kernel
theorem d_CWr_add_41 : decode b_CWr_add 41 = .ok (.iload_n 1, 1) := by decide +kernel
theorem d_CWr_add_42 : decode b_CWr_add 42 = .ok (.iload_n 3, 1) := by decide +kernel
theorem d_CWr_add_43 : decode b_CWr_add 43 = .ok (.invokevirtual 43, 3) := by decide +kernel
theorem d_CWr_add_46 : decode b_CWr_add 46 = .ok (.aload_n 0, 1) := by decide +kernel
theorem d_CWr_add_47 : decode b_CWr_add 47 = .ok (.invokevirtual 46, 3) := by decide +kernel
theorem d_CWr_add_50 : decode b_CWr_add 50 = .ok (.return_, 1) := by decide +kernel
theorem d_CWr_addLikely_0 : decode b_CWr_addLikely 0 = .ok (.aload_n 0, 1) := by decide +kernel
theorem d_CWr_addLikely_1 : decode b_CWr_addLikely 1 = .ok (.getfield 24, 3) := by decide +kernel
theorem d_CWr_addLikely_4 : decode b_CWr_addLikely 4 = .ok (.ldc 23, 2) := by decide +kernel
theorem d_CWr_addLikely_6 : decode b_CWr_addLikely 6 = .ok (.if_icmp .lt 14, 3) := by decide +kernel
theorem d_CWr_addLikely_9 : decode b_CWr_addLikely 9 = .ok (.aload_n 0, 1) := by decide +kernel
theorem d_CWr_addLikely_10 : decode b_CWr_addLikely 10 = .ok (.dup, 1) := by decide +kernel
theorem d_CWr_addLikely_11 : decode b_CWr_addLikely 11 = .ok (.getfield 19, 3) := by decide +kernel
theorem d_CWr_addLikely_14 : decode b_CWr_addLikely 14 = .ok (.iload_n 2, 1) := by decide +kernel
theorem d_CWr_addLikely_15 : decode b_CWr_addLikely 15 = .ok (.iadd, 1) := by decide +kernel
theorem d_CWr_addLikely_16 : decode b_CWr_addLikely 16 = .ok (.putfield 19, 3) := by decide +kernel
theorem d_CWr_addLikely_19 : decode b_CWr_addLikely 19 = .ok (.return_, 1) := by decide +kernel
theorem d_CWr_addLikely_20 : decode b_CWr_addLikely 20 = .ok (.aload_n 0, 1) := by decide +kernel
theorem d_CWr_addLikely_21 : decode b_CWr_addLikely 21 = .ok (.getfield 24, 3) := by decide +kernel
theorem d_CWr_addLikely_24 : decode b_CWr_addLikely 24 = .ok (.iload_n 2, 1) := by decide +kernel
theorem d_CWr_addLikely_25 : decode b_CWr_addLikely 25 = .ok (.if_icmp .ge 11, 3) := by decide +kernel
theorem d_CWr_addLikely_28 : decode b_CWr_addLikely 28 = .ok (.aload_n 0, 1) := by decide +kernel
theorem d_CWr_addLikely_29 : decode b_CWr_addLikely 29 = .ok (.iload_n 2, 1) := by decide +kernel
theorem d_CWr_addLikely_30 : decode b_CWr_addLikely 30 = .ok (.putfield 24, 3) := by decide +kernel
theorem d_CWr_addLikely_33 : decode b_CWr_addLikely 33 = .ok (.goto 13, 3) := by decide +kernel
theorem d_CWr_addLikely_36 : decode b_CWr_addLikely 36 = .ok (.aload_n 0, 1) := by decide +kernel
theorem d_CWr_addLikely_37 : decode b_CWr_addLikely 37 = .ok (.dup, 1) := by decide +kernel
theorem d_CWr_addLikely_38 : decode b_CWr_addLikely 38 = .ok (.getfield 19, 3) := by decide +kernel
theorem d_CWr_addLikely_41 : decode b_CWr_addLikely 41 = .ok (.iload_n 2, 1) := by decide +kernel
theorem d_CWr_addLikely_42 : decode b_CWr_addLikely 42 = .ok (.iadd, 1) := by decide +kernel
theorem d_CWr_addLikely_43 : decode b_CWr_addLikely 43 = .ok (.putfield 19, 3) := by decide +kernel
theorem d_CWr_addLikely_46 : decode b_CWr_addLikely 46 = .ok (.aload_n 0, 1) := by decide +kernel
theorem d_CWr_addLikely_47 : decode b_CWr_addLikely 47 = .ok (.getfield 15, 3) := by decide +kernel
theorem d_CWr_addLikely_50 : decode b_CWr_addLikely 50 = .ok (.iload_n 1, 1) := by decide +kernel
theorem d_CWr_addLikely_51 : decode b_CWr_addLikely 51 = .ok (.invokevirtual 49, 3) := by decide +kernel
theorem d_CWr_addLikely_54 : decode b_CWr_addLikely 54 = .ok (.return_, 1) := by decide +kernel
theorem d_CWr_addOther_0 : decode b_CWr_addOther 0 = .ok (.aload_n 0, 1) := by decide +kernel
theorem d_CWr_addOther_1 : decode b_CWr_addOther 1 = .ok (.getfield 24, 3) := by decide +kernel
theorem d_CWr_addOther_4 : decode b_CWr_addOther 4 = .ok (.iload_n 2, 1) := by decide +kernel
theorem d_CWr_addOther_5 : decode b_CWr_addOther 5 = .ok (.if_icmp .ge 16, 3) := by decide +kernel
theorem d_CWr_addOther_8 : decode b_CWr_addOther 8 = .ok (.aload_n 0, 1) := by decide +kernel
theorem d_CWr_addOther_9 : decode b_CWr_addOther 9 = .ok (.dup, 1) := by decide +kernel
theorem d_CWr_addOther_10 : decode b_CWr_addOther 10 = .ok (.getfield 19, 3) := by decide +kernel
theorem d_CWr_addOther_13 : decode b_CWr_addOther 13 = .ok (.iload_n 2, 1) := by decide +kernel
theorem d_CWr_addOther_14 : decode b_CWr_addOther 14 = .ok (.iadd, 1) := by decide +kernel
theorem d_CWr_addOther_15 : decode b_CWr_addOther 15 = .ok (.putfield 19, 3) := by decide +kernel
theorem d_CWr_addOther_18 : decode b_CWr_addOther 18 = .ok (.goto 8, 3) := by decide +kernel
theorem d_CWr_addOther_21 : decode b_CWr_addOther 21 = .ok (.aload_n 0, 1) := by decide +kernel
theorem d_CWr_addOther_22 : decode b_CWr_addOther 22 = .ok (.iload_n 2, 1) := by decide +kernel
theorem d_CWr_addOther_23 : decode b_CWr_addOther 23 = .ok (.putfield 24, 3) := by decide +kernel
theorem d_CWr_addOther_26 : decode b_CWr_addOther 26 = .ok (.aload_n 0, 1) := by decide +kernel
theorem d_CWr_addOther_27 : decode b_CWr_addOther 27 = .ok (.getfield 15, 3) := by decide +kernel
theorem d_CWr_addOther_30 : decode b_CWr_addOther 30 = .ok (.iload_n 1, 1) := by decide +kernel
theorem d_CWr_addOther_31 : decode b_CWr_addOther 31 = .ok (.invokevirtual 53, 3) := by decide +kernel
theorem d_CWr_addOther_34 : decode b_CWr_addOther 34 = .ok (.return_, 1) := by decide +kernel
theorem d_CWr_enlarge_0 : decode b_CWr_enlarge 0 = .ok (.iconst 0, 1) := by decide +kernel
theorem d_CWr_enlarge_1 : decode b_CWr_enlarge 1 = .ok (.istore_n 1, 1) := by decide +kernel
theorem d_CWr_enlarge_2 : decode b_CWr_enlarge 2 = .ok (.iload_n 1, 1) := by decide +kernel
theorem d_CWr_enlarge_3 : decode b_CWr_enlarge 3 = .ok (.bipush 15, 2) := by decide +kernel
theorem d_CWr_enlarge_5 : decode b_CWr_enlarge 5 = .ok (.if_icmp .ge 59, 3) := by decide +kernel
theorem d_CWr_enlarge_8 : decode b_CWr_enlarge 8 = .ok (.aload_n 0, 1) := by decide +kernel
theorem d_CWr_enlarge_9 : decode b_CWr_enlarge 9 = .ok (.getfield 24, 3) := by decide +kernel
theorem d_CWr_enlarge_12 : decode b_CWr_enlarge 12 = .ok (.ldc 23, 2) := by decide +kernel
theorem d_CWr_enlarge_14 : decode b_CWr_enlarge 14 = .ok (.if_icmp .ge 50, 3) := by decide +kernel
theorem d_CWr_enlarge_17 : decode b_CWr_enlarge 17 = .ok (.aload_n 0, 1) := by decide +kernel
theorem d_CWr_enlarge_18 : decode b_CWr_enlarge 18 = .ok (.dup, 1) := by decide +kernel
theorem d_CWr_enlarge_19 : decode b_CWr_enlarge 19 = .ok (.getfield 24, 3) := by decide +kernel
theorem d_CWr_enlarge_22 : decode b_CWr_enlarge 22 = .ok (.iconst 2, 1) := by decide +kernel
theorem d_CWr_enlarge_23 : decode b_CWr_enlarge 23 = .ok (.imul, 1) := by decide +kernel
theorem d_CWr_enlarge_24 : decode b_CWr_enlarge 24 = .ok (.putfield 24, 3) := by decide +kernel
theorem d_CWr_enlarge_27 : decode b_CWr_enlarge 27 = .ok (.aload_n 0, 1) := by decide +kernel
theorem d_CWr_enlarge_28 : decode b_CWr_enlarge 28 = .ok (.dup, 1) := by decide +kernel
theorem d_CWr_enlarge_29 : decode b_CWr_enlarge 29 = .ok (.getfield 19, 3) := by decide +kernel
theorem d_CWr_enlarge_32 : decode b_CWr_enlarge 32 = .ok (.iconst 2, 1) := by decide +kernel
theorem d_CWr_enlarge_33 : decode b_CWr_enlarge 33 = .ok (.imul, 1) := by decide +kernel
theorem d_CWr_enlarge_34 : decode b_CWr_enlarge 34 = .ok (.putfield 19, 3) := by decide +kernel
theorem d_CWr_enlarge_37 : decode b_CWr_enlarge 37 = .ok (.aload_n 0, 1) := by decide +kernel
theorem d_CWr_enlarge_38 : decode b_CWr_enlarge 38 = .ok (.dup, 1) := by decide +kernel
theorem d_CWr_enlarge_39 : decode b_CWr_enlarge 39 = .ok (.getfield 27, 3) := by decide +kernel
theorem d_CWr_enlarge_42 : decode b_CWr_enlarge 42 = .ok (.iconst 1, 1) := by decide +kernel
theorem d_CWr_enlarge_43 : decode b_CWr_enlarge 43 = .ok (.isub, 1) := by decide +kernel
theorem d_CWr_enlarge_44 : decode b_CWr_enlarge 44 = .ok (.putfield 27, 3) := by decide +kernel
theorem d_CWr_enlarge_47 : decode b_CWr_enlarge 47 = .ok (.aload_n 0, 1) := by decide +kernel
theorem d_CWr_enlarge_48 : decode b_CWr_enlarge 48 = .ok (.getfield 27, 3) := by decide +kernel
theorem d_CWr_enlarge_51 : decode b_CWr_enlarge 51 = .ok (.ifCond .ne 7, 3) := by decide +kernel
theorem d_CWr_enlarge_54 : decode b_CWr_enlarge 54 = .ok (.aload_n 0, 1) := by decide +kernel
theorem d_CWr_enlarge_55 : decode b_CWr_enlarge 55 = .ok (.invokevirtual 56, 3) := by decide +kernel
theorem d_CWr_enlarge_58 : decode b_CWr_enlarge 58 = .ok (.iinc 1 1, 3) := by decide +kernel
theorem d_CWr_enlarge_61 : decode b_CWr_enlarge 61 = .ok (.goto (-59), 3) := by decide +kernel
theorem d_CWr_enlarge_64 : decode b_CWr_enlarge 64 = .ok (.return_, 1) := by decide +kernel
theorem d_CWr_byteOut_0 : decode b_CWr_byteOut 0 = .ok (.aload_n 0, 1) := by decide +kernel
theorem d_CWr_byteOut_1 : decode b_CWr_byteOut 1 = .ok (.getfield 9, 3) := by decide +kernel
theorem d_CWr_byteOut_4 : decode b_CWr_byteOut 4 = .ok (.invokevirtual 59, 3) := by decide +kernel
theorem d_CWr_byteOut_7 : decode b_CWr_byteOut 7 = .ok (.istore_n 1, 1) := by decide +kernel
theorem d_CWr_byteOut_8 : decode b_CWr_byteOut 8 = .ok (.iload_n 1, 1) := by decide +kernel
theorem d_CWr_byteOut_9 : decode b_CWr_byteOut 9 = .ok (.iconst (-1), 1) := by decide +kernel
theorem d_CWr_byteOut_10 : decode b_CWr_byteOut 10 = .ok (.if_icmp .eq 41, 3) := by decide +kernel
theorem d_CWr_byteOut_13 : decode b_CWr_byteOut 13 = .ok (.iload_n 1, 1) := by decide +kernel
theorem d_CWr_byteOut_14 : decode b_CWr_byteOut 14 = .ok (.sipush 255, 3) := by decide +kernel
theorem d_CWr_byteOut_17 : decode b_CWr_byteOut 17 = .ok (.if_icmp .eq 34, 3) := by decide +kernel
theorem d_CWr_byteOut_20 : decode b_CWr_byteOut 20 = .ok (.aload_n 0, 1) := by decide +kernel
theorem d_CWr_byteOut_21 : decode b_CWr_byteOut 21 = .ok (.getfield 19, 3) := by decide +kernel
theorem d_CWr_byteOut_24 : decode b_CWr_byteOut 24 = .ok (.ldc 65, 2) := by decide +kernel
theorem d_CWr_byteOut_26 : decode b_CWr_byteOut 26 = .ok (.if_icmp .lt 25, 3) := by decide +kernel
theorem d_CWr_byteOut_29 : decode b_CWr_byteOut 29 = .ok (.aload_n 0, 1) := by decide +kernel
theorem d_CWr_byteOut_30 : decode b_CWr_byteOut 30 = .ok (.dup, 1) := by decide +kernel
theorem d_CWr_byteOut_31 : decode b_CWr_byteOut 31 = .ok (.getfield 19, 3) := by decide +kernel
theorem d_CWr_byteOut_34 : decode b_CWr_byteOut 34 = .ok (.ldc 65, 2) := by decide +kernel
theorem d_CWr_byteOut_36 : decode b_CWr_byteOut 36 = .ok (.isub, 1) := by decide +kernel
theorem d_CWr_byteOut_37 : decode b_CWr_byteOut 37 = .ok (.putfield 19, 3) := by decide +kernel
theorem d_CWr_byteOut_40 : decode b_CWr_byteOut 40 = .ok (.iinc 1 1, 3) := by decide +kernel
theorem d_CWr_byteOut_43 : decode b_CWr_byteOut 43 = .ok (.aload_n 0, 1) := by decide +kernel
theorem d_CWr_byteOut_44 : decode b_CWr_byteOut 44 = .ok (.getfield 9, 3) := by decide +kernel
theorem d_CWr_byteOut_47 : decode b_CWr_byteOut 47 = .ok (.iload_n 1, 1) := by decide +kernel
theorem d_CWr_byteOut_48 : decode b_CWr_byteOut 48 = .ok (.invokevirtual 66, 3) := by decide +kernel
theorem d_CWr_byteOut_51 : decode b_CWr_byteOut 51 = .ok (.aload_n 0, 1) := by decide +kernel
end
section
theorem d_CWr_byteOut_52 : decode b_CWr_byteOut 52 = .ok (.iload_n 1, 1) := by decide +kernel
theorem d_CWr_byteOut_53 : decode b_CWr_byteOut 53 = .ok (.sipush 255, 3) := by decide +kernel
theorem d_CWr_byteOut_56 : decode b_CWr_byteOut 56 = .ok (.if_icmp .ne 8, 3) := by decide +kernel
theorem d_CWr_byteOut_59 : decode b_CWr_byteOut 59 = .ok (.bipush 7, 2) := by decide +kernel
theorem d_CWr_byteOut_61 : decode b_CWr_byteOut 61 = .ok (.goto 5, 3) := by decide +kernel
theorem d_CWr_byteOut_64 : decode b_CWr_byteOut 64 = .ok (.bipush 8, 2) := by decide +kernel
theorem d_CWr_byteOut_66 : decode b_CWr_byteOut 66 = .ok (.putfield 27, 3) := by decide +kernel
theorem d_CWr_byteOut_69 : decode b_CWr_byteOut 69 = .ok (.bipush 27, 2) := by decide +kernel
theorem d_CWr_byteOut_71 : decode b_CWr_byteOut 71 = .ok (.aload_n 0, 1) := by decide +kernel
theorem d_CWr_byteOut_72 : decode b_CWr_byteOut 72 = .ok (.getfield 27, 3) := by decide +kernel
theorem d_CWr_byteOut_75 : decode b_CWr_byteOut 75 = .ok (.isub, 1) := by decide +kernel
theorem d_CWr_byteOut_76 : decode b_CWr_byteOut 76 = .ok (.istore_n 2, 1) := by decide +kernel
theorem d_CWr_byteOut_77 : decode b_CWr_byteOut 77 = .ok (.aload_n 0, 1) := by decide +kernel
theorem d_CWr_byteOut_78 : decode b_CWr_byteOut 78 = .ok (.getfield 9, 3) := by decide +kernel
theorem d_CWr_byteOut_81 : decode b_CWr_byteOut 81 = .ok (.aload_n 0, 1) := by decide +kernel
theorem d_CWr_byteOut_82 : decode b_CWr_byteOut 82 = .ok (.getfield 19, 3) := by decide +kernel
theorem d_CWr_byteOut_85 : decode b_CWr_byteOut 85 = .ok (.iload_n 2, 1) := by decide +kernel
theorem d_CWr_byteOut_86 : decode b_CWr_byteOut 86 = .ok (.iushr, 1) := by decide +kernel
theorem d_CWr_byteOut_87 : decode b_CWr_byteOut 87 = .ok (.sipush 255, 3) := by decide +kernel
theorem d_CWr_byteOut_90 : decode b_CWr_byteOut 90 = .ok (.iand, 1) := by decide +kernel
theorem d_CWr_byteOut_91 : decode b_CWr_byteOut 91 = .ok (.invokevirtual 69, 3) := by decide +kernel
theorem d_CWr_byteOut_94 : decode b_CWr_byteOut 94 = .ok (.aload_n 0, 1) := by decide +kernel
theorem d_CWr_byteOut_95 : decode b_CWr_byteOut 95 = .ok (.dup, 1) := by decide +kernel
theorem d_CWr_byteOut_96 : decode b_CWr_byteOut 96 = .ok (.getfield 19, 3) := by decide +kernel
theorem d_CWr_byteOut_99 : decode b_CWr_byteOut 99 = .ok (.iconst 1, 1) := by decide +kernel
theorem d_CWr_byteOut_100 : decode b_CWr_byteOut 100 = .ok (.iload_n 2, 1) := by decide +kernel
theorem d_CWr_byteOut_101 : decode b_CWr_byteOut 101 = .ok (.ishl, 1) := by decide +kernel
theorem d_CWr_byteOut_102 : decode b_CWr_byteOut 102 = .ok (.iconst 1, 1) := by decide +kernel
theorem d_CWr_byteOut_103 : decode b_CWr_byteOut 103 = .ok (.isub, 1) := by decide +kernel
theorem d_CWr_byteOut_104 : decode b_CWr_byteOut 104 = .ok (.iand, 1) := by decide +kernel
theorem d_CWr_byteOut_105 : decode b_CWr_byteOut 105 = .ok (.putfield 19, 3) := by decide +kernel
theorem d_CWr_byteOut_108 : decode b_CWr_byteOut 108 = .ok (.return_, 1) := by decide +kernel
theorem d_CWr_fillByteOut_0 : decode b_CWr_fillByteOut 0 = .ok (.aload_n 0, 1) := by decide +kernel
theorem d_CWr_fillByteOut_1 : decode b_CWr_fillByteOut 1 = .ok (.dup, 1) := by decide +kernel
theorem d_CWr_fillByteOut_2 : decode b_CWr_fillByteOut 2 = .ok (.getfield 19, 3) := by decide +kernel
theorem d_CWr_fillByteOut_5 : decode b_CWr_fillByteOut 5 = .ok (.aload_n 0, 1) := by decide +kernel
theorem d_CWr_fillByteOut_6 : decode b_CWr_fillByteOut 6 = .ok (.getfield 27, 3) := by decide +kernel
theorem d_CWr_fillByteOut_9 : decode b_CWr_fillByteOut 9 = .ok (.ishl, 1) := by decide +kernel
theorem d_CWr_fillByteOut_10 : decode b_CWr_fillByteOut 10 = .ok (.putfield 19, 3) := by decide +kernel
theorem d_CWr_fillByteOut_13 : decode b_CWr_fillByteOut 13 = .ok (.aload_n 0, 1) := by decide +kernel
theorem d_CWr_fillByteOut_14 : decode b_CWr_fillByteOut 14 = .ok (.invokevirtual 56, 3) := by decide +kernel
theorem d_CWr_fillByteOut_17 : decode b_CWr_fillByteOut 17 = .ok (.return_, 1) := by decide +kernel
theorem d_CWr_endInWay0_0 : decode b_CWr_endInWay0 0 = .ok (.aload_n 0, 1) := by decide +kernel
theorem d_CWr_endInWay0_1 : decode b_CWr_endInWay0 1 = .ok (.getfield 19, 3) := by decide +kernel
theorem d_CWr_endInWay0_4 : decode b_CWr_endInWay0 4 = .ok (.ldc 72, 2) := by decide +kernel
theorem d_CWr_endInWay0_6 : decode b_CWr_endInWay0 6 = .ok (.ior, 1) := by decide +kernel
theorem d_CWr_endInWay0_7 : decode b_CWr_endInWay0 7 = .ok (.istore_n 1, 1) := by decide +kernel
theorem d_CWr_endInWay0_8 : decode b_CWr_endInWay0 8 = .ok (.aload_n 0, 1) := by decide +kernel
theorem d_CWr_endInWay0_9 : decode b_CWr_endInWay0 9 = .ok (.iload_n 1, 1) := by decide +kernel
theorem d_CWr_endInWay0_10 : decode b_CWr_endInWay0 10 = .ok (.aload_n 0, 1) := by decide +kernel
theorem d_CWr_endInWay0_11 : decode b_CWr_endInWay0 11 = .ok (.getfield 19, 3) := by decide +kernel
theorem d_CWr_endInWay0_14 : decode b_CWr_endInWay0 14 = .ok (.aload_n 0, 1) := by decide +kernel
theorem d_CWr_endInWay0_15 : decode b_CWr_endInWay0 15 = .ok (.getfield 24, 3) := by decide +kernel
theorem d_CWr_endInWay0_18 : decode b_CWr_endInWay0 18 = .ok (.iadd, 1) := by decide +kernel
theorem d_CWr_endInWay0_19 : decode b_CWr_endInWay0 19 = .ok (.if_icmp .ge 7, 3) := by decide +kernel
theorem d_CWr_endInWay0_22 : decode b_CWr_endInWay0 22 = .ok (.iload_n 1, 1) := by decide +kernel
theorem d_CWr_endInWay0_23 : decode b_CWr_endInWay0 23 = .ok (.goto 7, 3) := by decide +kernel
theorem d_CWr_endInWay0_26 : decode b_CWr_endInWay0 26 = .ok (.iload_n 1, 1) := by decide +kernel
theorem d_CWr_endInWay0_27 : decode b_CWr_endInWay0 27 = .ok (.ldc 23, 2) := by decide +kernel
theorem d_CWr_endInWay0_29 : decode b_CWr_endInWay0 29 = .ok (.isub, 1) := by decide +kernel
theorem d_CWr_endInWay0_30 : decode b_CWr_endInWay0 30 = .ok (.putfield 19, 3) := by decide +kernel
theorem d_CWr_endInWay0_33 : decode b_CWr_endInWay0 33 = .ok (.aload_n 0, 1) := by decide +kernel
theorem d_CWr_endInWay0_34 : decode b_CWr_endInWay0 34 = .ok (.invokevirtual 73, 3) := by decide +kernel
theorem d_CWr_endInWay0_37 : decode b_CWr_endInWay0 37 = .ok (.aload_n 0, 1) := by decide +kernel
theorem d_CWr_endInWay0_38 : decode b_CWr_endInWay0 38 = .ok (.invokevirtual 73, 3) := by decide +kernel
theorem d_CWr_endInWay0_41 : decode b_CWr_endInWay0 41 = .ok (.return_, 1) := by decide +kernel
theorem d_CWr_endInWay1_0 : decode b_CWr_endInWay1 0 = .ok (.bipush 12, 2) := by decide +kernel
theorem d_CWr_endInWay1_2 : decode b_CWr_endInWay1 2 = .ok (.aload_n 0, 1) := by decide +kernel
theorem d_CWr_endInWay1_3 : decode b_CWr_endInWay1 3 = .ok (.getfield 27, 3) := by decide +kernel
theorem d_CWr_endInWay1_6 : decode b_CWr_endInWay1 6 = .ok (.isub, 1) := by decide +kernel
theorem d_CWr_endInWay1_7 : decode b_CWr_endInWay1 7 = .ok (.istore_n 1, 1) := by decide +kernel
theorem d_CWr_endInWay1_8 : decode b_CWr_endInWay1 8 = .ok (.iconst 0, 1) := by decide +kernel
theorem d_CWr_endInWay1_9 : decode b_CWr_endInWay1 9 = .ok (.istore_n 2, 1) := by decide +kernel
theorem d_CWr_endInWay1_10 : decode b_CWr_endInWay1 10 = .ok (.iload_n 2, 1) := by decide +kernel
theorem d_CWr_endInWay1_11 : decode b_CWr_endInWay1 11 = .ok (.bipush 12, 2) := by decide +kernel
theorem d_CWr_endInWay1_13 : decode b_CWr_endInWay1 13 = .ok (.if_icmp .ge 24, 3) := by decide +kernel
theorem d_CWr_endInWay1_16 : decode b_CWr_endInWay1 16 = .ok (.iload_n 1, 1) := by decide +kernel
theorem d_CWr_endInWay1_17 : decode b_CWr_endInWay1 17 = .ok (.ifCond .le 20, 3) := by decide +kernel
theorem d_CWr_endInWay1_20 : decode b_CWr_endInWay1 20 = .ok (.aload_n 0, 1) := by decide +kernel
theorem d_CWr_endInWay1_21 : decode b_CWr_endInWay1 21 = .ok (.invokevirtual 73, 3) := by decide +kernel
theorem d_CWr_endInWay1_24 : decode b_CWr_endInWay1 24 = .ok (.iload_n 1, 1) := by decide +kernel
theorem d_CWr_endInWay1_25 : decode b_CWr_endInWay1 25 = .ok (.aload_n 0, 1) := by decide +kernel
theorem d_CWr_endInWay1_26 : decode b_CWr_endInWay1 26 = .ok (.getfield 27, 3) := by decide +kernel
theorem d_CWr_endInWay1_29 : decode b_CWr_endInWay1 29 = .ok (.isub, 1) := by decide +kernel
theorem d_CWr_endInWay1_30 : decode b_CWr_endInWay1 30 = .ok (.istore_n 1, 1) := by decide +kernel
theorem d_CWr_endInWay1_31 : decode b_CWr_endInWay1 31 = .ok (.iinc 2 1, 3) := by decide +kernel
theorem d_CWr_endInWay1_34 : decode b_CWr_endInWay1 34 = .ok (.goto (-24), 3) := by decide +kernel
theorem d_CWr_endInWay1_37 : decode b_CWr_endInWay1 37 = .ok (.return_, 1) := by decide +kernel
theorem d_CRd_init_0 : decode b_CRd_init 0 = .ok (.aload_n 0, 1) := by decide +kernel
theorem d_CRd_init_1 : decode b_CRd_init 1 = .ok (.invokespecial 3, 3) := by decide +kernel
theorem d_CRd_init_4 : decode b_CRd_init 4 = .ok (.aload_n 0, 1) := by decide +kernel
theorem d_CRd_init_5 : decode b_CRd_init 5 = .ok (.aload_n 1, 1) := by decide +kernel
theorem d_CRd_init_6 : decode b_CRd_init 6 = .ok (.putfield 9, 3) := by decide +kernel
theorem d_CRd_init_9 : decode b_CRd_init 9 = .ok (.aload_n 0, 1) := by decide +kernel
theorem d_CRd_init_10 : decode b_CRd_init 10 = .ok (.aload_n 2, 1) := by decide +kernel
theorem d_CRd_init_11 : decode b_CRd_init 11 = .ok (.putfield 15, 3) := by decide +kernel
theorem d_CRd_init_14 : decode b_CRd_init 14 = .ok (.return_, 1) := by decide +kernel
theorem d_CRd_begin_0 : decode b_CRd_begin 0 = .ok (.aload_n 0, 1) := by decide +kernel
theorem d_CRd_begin_1 : decode b_CRd_begin 1 = .ok (.aload_n 0, 1) := by decide +kernel
theorem d_CRd_begin_2 : decode b_CRd_begin 2 = .ok (.getfield 9, 3) := by decide +kernel
theorem d_CRd_begin_5 : decode b_CRd_begin 5 = .ok (.invokevirtual 19, 3) := by decide +kernel
theorem d_CRd_begin_8 : decode b_CRd_begin 8 = .ok (.putfield 25, 3) := by decide +kernel
theorem d_CRd_begin_11 : decode b_CRd_begin 11 = .ok (.aload_n 0, 1) := by decide +kernel
theorem d_CRd_begin_12 : decode b_CRd_begin 12 = .ok (.aload_n 0, 1) := by decide +kernel
theorem d_CRd_begin_13 : decode b_CRd_begin 13 = .ok (.getfield 25, 3) := by decide +kernel
theorem d_CRd_begin_16 : decode b_CRd_begin 16 = .ok (.bipush 16, 2) := by decide +kernel
theorem d_CRd_begin_18 : decode b_CRd_begin 18 = .ok (.ishl, 1) := by decide +kernel
theorem d_CRd_begin_19 : decode b_CRd_begin 19 = .ok (.putfield 29, 3) := by decide +kernel
theorem d_CRd_begin_22 : decode b_CRd_begin 22 = .ok (.aload_n 0, 1) := by decide +kernel
theorem d_CRd_begin_23 : decode b_CRd_begin 23 = .ok (.ldc 32, 2) := by decide +kernel
theorem d_CRd_begin_25 : decode b_CRd_begin 25 = .ok (.putfield 33, 3) := by decide +kernel
theorem d_CRd_begin_28 : decode b_CRd_begin 28 = .ok (.aload_n 0, 1) := by decide +kernel
theorem d_CRd_begin_29 : decode b_CRd_begin 29 = .ok (.invokevirtual 36, 3) := by decide +kernel
theorem d_CRd_begin_32 : decode b_CRd_begin 32 = .ok (.aload_n 0, 1) := by decide +kernel
theorem d_CRd_begin_33 : decode b_CRd_begin 33 = .ok (.dup, 1) := by decide +kernel
theorem d_CRd_begin_34 : decode b_CRd_begin 34 = .ok (.getfield 29, 3) := by decide +kernel
theorem d_CRd_begin_37 : decode b_CRd_begin 37 = .ok (.bipush 7, 2) := by decide +kernel
theorem d_CRd_begin_39 : decode b_CRd_begin 39 = .ok (.ishl, 1) := by decide +kernel
theorem d_CRd_begin_40 : decode b_CRd_begin 40 = .ok (.putfield 29, 3) := by decide +kernel
theorem d_CRd_begin_43 : decode b_CRd_begin 43 = .ok (.aload_n 0, 1) := by decide +kernel
theorem d_CRd_begin_44 : decode b_CRd_begin 44 = .ok (.dup, 1) := by decide +kernel
theorem d_CRd_begin_45 : decode b_CRd_begin 45 = .ok (.getfield 39, 3) := by decide +kernel
theorem d_CRd_begin_48 : decode b_CRd_begin 48 = .ok (.bipush 7, 2) := by decide +kernel
theorem d_CRd_begin_50 : decode b_CRd_begin 50 = .ok (.isub, 1) := by decide +kernel
theorem d_CRd_begin_51 : decode b_CRd_begin 51 = .ok (.putfield 39, 3) := by decide +kernel
theorem d_CRd_begin_54 : decode b_CRd_begin 54 = .ok (.return_, 1) := by decide +kernel
theorem d_CRd_byteIn_0 : decode b_CRd_byteIn 0 = .ok (.aload_n 0, 1) := by decide +kernel
theorem d_CRd_byteIn_1 : decode b_CRd_byteIn 1 = .ok (.getfield 25, 3) := by decide +kernel
theorem d_CRd_byteIn_4 : decode b_CRd_byteIn 4 = .ok (.sipush 255, 3) := by decide +kernel
theorem d_CRd_byteIn_7 : decode b_CRd_byteIn 7 = .ok (.if_icmp .eq 39, 3) := by decide +kernel
theorem d_CRd_byteIn_10 : decode b_CRd_byteIn 10 = .ok (.aload_n 0, 1) := by decide +kernel
theorem d_CRd_byteIn_11 : decode b_CRd_byteIn 11 = .ok (.aload_n 0, 1) := by decide +kernel
theorem d_CRd_byteIn_12 : decode b_CRd_byteIn 12 = .ok (.getfield 9, 3) := by decide +kernel
theorem d_CRd_byteIn_15 : decode b_CRd_byteIn 15 = .ok (.invokevirtual 19, 3) := by decide +kernel
theorem d_CRd_byteIn_18 : decode b_CRd_byteIn 18 = .ok (.putfield 25, 3) := by decide +kernel
theorem d_CRd_byteIn_21 : decode b_CRd_byteIn 21 = .ok (.aload_n 0, 1) := by decide +kernel
theorem d_CRd_byteIn_22 : decode b_CRd_byteIn 22 = .ok (.dup, 1) := by decide +kernel
theorem d_CRd_byteIn_23 : decode b_CRd_byteIn 23 = .ok (.getfield 29, 3) := by decide +kernel
theorem d_CRd_byteIn_26 : decode b_CRd_byteIn 26 = .ok (.aload_n 0, 1) := by decide +kernel
theorem d_CRd_byteIn_27 : decode b_CRd_byteIn 27 = .ok (.getfield 25, 3) := by decide +kernel
theorem d_CRd_byteIn_30 : decode b_CRd_byteIn 30 = .ok (.bipush 8, 2) := by decide +kernel
theorem d_CRd_byteIn_32 : decode b_CRd_byteIn 32 = .ok (.ishl, 1) := by decide +kernel
theorem d_CRd_byteIn_33 : decode b_CRd_byteIn 33 = .ok (.iadd, 1) := by decide +kernel
theorem d_CRd_byteIn_34 : decode b_CRd_byteIn 34 = .ok (.putfield 29, 3) := by decide +kernel
theorem d_CRd_byteIn_37 : decode b_CRd_byteIn 37 = .ok (.aload_n 0, 1) := by decide +kernel
theorem d_CRd_byteIn_38 : decode b_CRd_byteIn 38 = .ok (.bipush 8, 2) := by decide +kernel
theorem d_CRd_byteIn_40 : decode b_CRd_byteIn 40 = .ok (.putfield 39, 3) := by decide +kernel
theorem d_CRd_byteIn_43 : decode b_CRd_byteIn 43 = .ok (.goto 69, 3) := by decide +kernel
theorem d_CRd_byteIn_46 : decode b_CRd_byteIn 46 = .ok (.aload_n 0, 1) := by decide +kernel
theorem d_CRd_byteIn_47 : decode b_CRd_byteIn 47 = .ok (.getfield 9, 3) := by decide +kernel
theorem d_CRd_byteIn_50 : decode b_CRd_byteIn 50 = .ok (.invokevirtual 42, 3) := by decide +kernel
theorem d_CRd_byteIn_53 : decode b_CRd_byteIn 53 = .ok (.sipush 143, 3) := by decide +kernel
theorem d_CRd_byteIn_56 : decode b_CRd_byteIn 56 = .ok (.if_icmp .le 23, 3) := by decide +kernel
theorem d_CRd_byteIn_59 : decode b_CRd_byteIn 59 = .ok (.aload_n 0, 1) := by decide +kernel
theorem d_CRd_byteIn_60 : decode b_CRd_byteIn 60 = .ok (.dup, 1) := by decide +kernel
theorem d_CRd_byteIn_61 : decode b_CRd_byteIn 61 = .ok (.getfield 29, 3) := by decide +kernel
theorem d_CRd_byteIn_64 : decode b_CRd_byteIn 64 = .ok (.ldc 45, 2) := by decide +kernel
theorem d_CRd_byteIn_66 : decode b_CRd_byteIn 66 = .ok (.iadd, 1) := by decide +kernel
theorem d_CRd_byteIn_67 : decode b_CRd_byteIn 67 = .ok (.putfield 29, 3) := by decide +kernel
theorem d_CRd_byteIn_70 : decode b_CRd_byteIn 70 = .ok (.aload_n 0, 1) := by decide +kernel
theorem d_CRd_byteIn_71 : decode b_CRd_byteIn 71 = .ok (.bipush 8, 2) := by decide +kernel
theorem d_CRd_byteIn_73 : decode b_CRd_byteIn 73 = .ok (.putfield 39, 3) := by decide +kernel
theorem d_CRd_byteIn_76 : decode b_CRd_byteIn 76 = .ok (.goto 36, 3) := by decide +kernel
theorem d_CRd_byteIn_79 : decode b_CRd_byteIn 79 = .ok (.aload_n 0, 1) := by decide +kernel
theorem d_CRd_byteIn_80 : decode b_CRd_byteIn 80 = .ok (.aload_n 0, 1) := by decide +kernel
theorem d_CRd_byteIn_81 : decode b_CRd_byteIn 81 = .ok (.getfield 9, 3) := by decide +kernel
theorem d_CRd_byteIn_84 : decode b_CRd_byteIn 84 = .ok (.invokevirtual 19, 3) := by decide +kernel
theorem d_CRd_byteIn_87 : decode b_CRd_byteIn 87 = .ok (.putfield 25, 3) := by decide +kernel
theorem d_CRd_byteIn_90 : decode b_CRd_byteIn 90 = .ok (.aload_n 0, 1) := by decide +kernel
theorem d_CRd_byteIn_91 : decode b_CRd_byteIn 91 = .ok (.dup, 1) := by decide +kernel
theorem d_CRd_byteIn_92 : decode b_CRd_byteIn 92 = .ok (.getfield 29, 3) := by decide +kernel
theorem d_CRd_byteIn_95 : decode b_CRd_byteIn 95 = .ok (.aload_n 0, 1) := by decide +kernel
theorem d_CRd_byteIn_96 : decode b_CRd_byteIn 96 = .ok (.getfield 25, 3) := by decide +kernel
theorem d_CRd_byteIn_99 : decode b_CRd_byteIn 99 = .ok (.bipush 9, 2) := by decide +kernel
theorem d_CRd_byteIn_101 : decode b_CRd_byteIn 101 = .ok (.ishl, 1) := by decide +kernel
theorem d_CRd_byteIn_102 : decode b_CRd_byteIn 102 = .ok (.iadd, 1) := by decide +kernel
theorem d_CRd_byteIn_103 : decode b_CRd_byteIn 103 = .ok (.putfield 29, 3) := by decide +kernel
theorem d_CRd_byteIn_106 : decode b_CRd_byteIn 106 = .ok (.aload_n 0, 1) := by decide +kernel
theorem d_CRd_byteIn_107 : decode b_CRd_byteIn 107 = .ok (.bipush 7, 2) := by decide +kernel
theorem d_CRd_byteIn_109 : decode b_CRd_byteIn 109 = .ok (.putfield 39, 3) := by decide +kernel
theorem d_CRd_byteIn_112 : decode b_CRd_byteIn 112 = .ok (.return_, 1) := by decide +kernel
theorem d_CRd_nextBit_0 : decode b_CRd_nextBit 0 = .ok (.aload_n 0, 1) := by decide +kernel
theorem d_CRd_nextBit_1 : decode b_CRd_nextBit 1 = .ok (.getfield 15, 3) := by decide +kernel
theorem d_CRd_nextBit_4 : decode b_CRd_nextBit 4 = .ok (.iload_n 1, 1) := by decide +kernel
theorem d_CRd_nextBit_5 : decode b_CRd_nextBit 5 = .ok (.invokevirtual 46, 3) := by decide +kernel
theorem d_CRd_nextBit_8 : decode b_CRd_nextBit 8 = .ok (.istore_n 2, 1) := by decide +kernel
theorem d_CRd_nextBit_9 : decode b_CRd_nextBit 9 = .ok (.aload_n 0, 1) := by decide +kernel
theorem d_CRd_nextBit_10 : decode b_CRd_nextBit 10 = .ok (.getfield 15, 3) := by decide +kernel
theorem d_CRd_nextBit_13 : decode b_CRd_nextBit 13 = .ok (.iload_n 1, 1) := by decide +kernel
theorem d_CRd_nextBit_14 : decode b_CRd_nextBit 14 = .ok (.invokevirtual 52, 3) := by decide +kernel
theorem d_CRd_nextBit_17 : decode b_CRd_nextBit 17 = .ok (.istore_n 3, 1) := by decide +kernel
theorem d_CRd_nextBit_18 : decode b_CRd_nextBit 18 = .ok (.aload_n 0, 1) := by decide +kernel
theorem d_CRd_nextBit_19 : decode b_CRd_nextBit 19 = .ok (.dup, 1) := by decide +kernel
theorem d_CRd_nextBit_20 : decode b_CRd_nextBit 20 = .ok (.getfield 33, 3) := by decide +kernel
theorem d_CRd_nextBit_23 : decode b_CRd_nextBit 23 = .ok (.iload_n 2, 1) := by decide +kernel
theorem d_CRd_nextBit_24 : decode b_CRd_nextBit 24 = .ok (.isub, 1) := by decide +kernel
theorem d_CRd_nextBit_25 : decode b_CRd_nextBit 25 = .ok (.putfield 33, 3) := by decide +kernel
theorem d_CRd_nextBit_28 : decode b_CRd_nextBit 28 = .ok (.aload_n 0, 1) := by decide +kernel
theorem d_CRd_nextBit_29 : decode b_CRd_nextBit 29 = .ok (.getfield 29, 3) := by decide +kernel
theorem d_CRd_nextBit_32 : decode b_CRd_nextBit 32 = .ok (.bipush 16, 2) := by decide +kernel
theorem d_CRd_nextBit_34 : decode b_CRd_nextBit 34 = .ok (.iushr, 1) := by decide +kernel
theorem d_CRd_nextBit_35 : decode b_CRd_nextBit 35 = .ok (.iload_n 2, 1) := by decide +kernel
theorem d_CRd_nextBit_36 : decode b_CRd_nextBit 36 = .ok (.if_icmp .ge 26, 3) := by decide +kernel
theorem d_CRd_nextBit_39 : decode b_CRd_nextBit 39 = .ok (.aload_n 0, 1) := by decide +kernel
theorem d_CRd_nextBit_40 : decode b_CRd_nextBit 40 = .ok (.getfield 33, 3) := by decide +kernel
theorem d_CRd_nextBit_43 : decode b_CRd_nextBit 43 = .ok (.iload_n 2, 1) := by decide +kernel
theorem d_CRd_nextBit_44 : decode b_CRd_nextBit 44 = .ok (.if_icmp .ge 7, 3) := by decide +kernel
theorem d_CRd_nextBit_47 : decode b_CRd_nextBit 47 = .ok (.iconst 1, 1) := by decide +kernel
theorem d_CRd_nextBit_48 : decode b_CRd_nextBit 48 = .ok (.goto 4, 3) := by decide +kernel
theorem d_CRd_nextBit_51 : decode b_CRd_nextBit 51 = .ok (.iconst 0, 1) := by decide +kernel
theorem d_CRd_nextBit_52 : decode b_CRd_nextBit 52 = .ok (.istore 4, 2) := by decide +kernel
theorem d_CRd_nextBit_54 : decode b_CRd_nextBit 54 = .ok (.aload_n 0, 1) := by decide +kernel
theorem d_CRd_nextBit_55 : decode b_CRd_nextBit 55 = .ok (.iload_n 2, 1) := by decide +kernel
theorem d_CRd_nextBit_56 : decode b_CRd_nextBit 56 = .ok (.putfield 33, 3) := by decide +kernel
theorem d_CRd_nextBit_59 : decode b_CRd_nextBit 59 = .ok (.goto 42, 3) := by decide +kernel
theorem d_CRd_nextBit_62 : decode b_CRd_nextBit 62 = .ok (.aload_n 0, 1) := by decide +kernel
theorem d_CRd_nextBit_63 : decode b_CRd_nextBit 63 = .ok (.dup, 1) := by decide +kernel
theorem d_CRd_nextBit_64 : decode b_CRd_nextBit 64 = .ok (.getfield 29, 3) := by decide +kernel
theorem d_CRd_nextBit_67 : decode b_CRd_nextBit 67 = .ok (.iload_n 2, 1) := by decide +kernel
theorem d_CRd_nextBit_68 : decode b_CRd_nextBit 68 = .ok (.bipush 16, 2) := by decide +kernel
theorem d_CRd_nextBit_70 : decode b_CRd_nextBit 70 = .ok (.ishl, 1) := by decide +kernel
theorem d_CRd_nextBit_71 : decode b_CRd_nextBit 71 = .ok (.isub, 1) := by decide +kernel
theorem d_CRd_nextBit_72 : decode b_CRd_nextBit 72 = .ok (.putfield 29, 3) := by decide +kernel
theorem d_CRd_nextBit_75 : decode b_CRd_nextBit 75 = .ok (.aload_n 0, 1) := by decide +kernel
theorem d_CRd_nextBit_76 : decode b_CRd_nextBit 76 = .ok (.getfield 33, 3) := by decide +kernel
theorem d_CRd_nextBit_79 : decode b_CRd_nextBit 79 = .ok (.ldc 32, 2) := by decide +kernel
theorem d_CRd_nextBit_81 : decode b_CRd_nextBit 81 = .ok (.if_icmp .lt 5, 3) := by decide +kernel
theorem d_CRd_nextBit_84 : decode b_CRd_nextBit 84 = .ok (.iload_n 3, 1) := by decide +kernel
theorem d_CRd_nextBit_85 : decode b_CRd_nextBit 85 = .ok (.ireturn, 1) := by decide +kernel
theorem d_CRd_nextBit_86 : decode b_CRd_nextBit 86 = .ok (.aload_n 0, 1) := by decide +kernel
theorem d_CRd_nextBit_87 : decode b_CRd_nextBit 87 = .ok (.getfield 33, 3) := by decide +kernel
theorem d_CRd_nextBit_90 : decode b_CRd_nextBit 90 = .ok (.iload_n 2, 1) := by decide +kernel
theorem d_CRd_nextBit_91 : decode b_CRd_nextBit 91 = .ok (.if_icmp .lt 7, 3) := by decide +kernel
theorem d_CRd_nextBit_94 : decode b_CRd_nextBit 94 = .ok (.iconst 1, 1) := by decide +kernel
theorem d_CRd_nextBit_95 : decode b_CRd_nextBit 95 = .ok (.goto 4, 3) := by decide +kernel
theorem d_CRd_nextBit_98 : decode b_CRd_nextBit 98 = .ok (.iconst 0, 1) := by decide +kernel
theorem d_CRd_nextBit_99 : decode b_CRd_nextBit 99 = .ok (.istore 4, 2) := by decide +kernel
theorem d_CRd_nextBit_101 : decode b_CRd_nextBit 101 = .ok (.iload 4, 2) := by decide +kernel
theorem d_CRd_nextBit_103 : decode b_CRd_nextBit 103 = .ok (.ifCond .eq 14, 3) := by decide +kernel
theorem d_CRd_nextBit_106 : decode b_CRd_nextBit 106 = .ok (.aload_n 0, 1) := by decide +kernel
theorem d_CRd_nextBit_107 : decode b_CRd_nextBit 107 = .ok (.getfield 15, 3) := by decide +kernel
theorem d_CRd_nextBit_110 : decode b_CRd_nextBit 110 = .ok (.iload_n 1, 1) := by decide +kernel
theorem d_CRd_nextBit_111 : decode b_CRd_nextBit 111 = .ok (.invokevirtual 55, 3) := by decide +kernel
theorem d_CRd_nextBit_114 : decode b_CRd_nextBit 114 = .ok (.goto 11, 3) := by decide +kernel
theorem d_CRd_nextBit_117 : decode b_CRd_nextBit 117 = .ok (.aload_n 0, 1) := by decide +kernel
theorem d_CRd_nextBit_118 : decode b_CRd_nextBit 118 = .ok (.getfield 15, 3) := by decide +kernel
theorem d_CRd_nextBit_121 : decode b_CRd_nextBit 121 = .ok (.iload_n 1, 1) := by decide +kernel
theorem d_CRd_nextBit_122 : decode b_CRd_nextBit 122 = .ok (.invokevirtual 59, 3) := by decide +kernel
theorem d_CRd_nextBit_125 : decode b_CRd_nextBit 125 = .ok (.aload_n 0, 1) := by decide +kernel
theorem d_CRd_nextBit_126 : decode b_CRd_nextBit 126 = .ok (.invokevirtual 62, 3) := by decide +kernel
theorem d_CRd_nextBit_129 : decode b_CRd_nextBit 129 = .ok (.iload 4, 2) := by decide +kernel
theorem d_CRd_nextBit_131 : decode b_CRd_nextBit 131 = .ok (.ifCond .eq 7, 3) := by decide +kernel
theorem d_CRd_nextBit_134 : decode b_CRd_nextBit 134 = .ok (.iload_n 3, 1) := by decide +kernel
theorem d_CRd_nextBit_135 : decode b_CRd_nextBit 135 = .ok (.goto 6, 3) := by decide +kernel
theorem d_CRd_nextBit_138 : decode b_CRd_nextBit 138 = .ok (.iconst 1, 1) := by decide +kernel
theorem d_CRd_nextBit_139 : decode b_CRd_nextBit 139 = .ok (.iload_n 3, 1) := by decide +kernel
theorem d_CRd_nextBit_140 : decode b_CRd_nextBit 140 = .ok (.isub, 1) := by decide +kernel
theorem d_CRd_nextBit_141 : decode b_CRd_nextBit 141 = .ok (.ireturn, 1) := by decide +kernel
theorem d_CRd_enlarge_0 : decode b_CRd_enlarge 0 = .ok (.iconst 0, 1) := by decide +kernel
theorem d_CRd_enlarge_1 : decode b_CRd_enlarge 1 = .ok (.istore_n 1, 1) := by decide +kernel
theorem d_CRd_enlarge_2 : decode b_CRd_enlarge 2 = .ok (.iload_n 1, 1) := by decide +kernel
theorem d_CRd_enlarge_3 : decode b_CRd_enlarge 3 = .ok (.bipush 15, 2) := by decide +kernel
theorem d_CRd_enlarge_5 : decode b_CRd_enlarge 5 = .ok (.if_icmp .ge 59, 3) := by decide +kernel
theorem d_CRd_enlarge_8 : decode b_CRd_enlarge 8 = .ok (.aload_n 0, 1) := by decide +kernel
theorem d_CRd_enlarge_9 : decode b_CRd_enlarge 9 = .ok (.getfield 33, 3) := by decide +kernel
theorem d_CRd_enlarge_12 : decode b_CRd_enlarge 12 = .ok (.ldc 32, 2) := by decide +kernel
theorem d_CRd_enlarge_14 : decode b_CRd_enlarge 14 = .ok (.if_icmp .ge 50, 3) := by decide +kernel
theorem d_CRd_enlarge_17 : decode b_CRd_enlarge 17 = .ok (.aload_n 0, 1) := by decide +kernel
theorem d_CRd_enlarge_18 : decode b_CRd_enlarge 18 = .ok (.getfield 39, 3) := by decide +kernel
theorem d_CRd_enlarge_21 : decode b_CRd_enlarge 21 = .ok (.ifCond .ne 7, 3) := by decide +kernel
theorem d_CRd_enlarge_24 : decode b_CRd_enlarge 24 = .ok (.aload_n 0, 1) := by decide +kernel
theorem d_CRd_enlarge_25 : decode b_CRd_enlarge 25 = .ok (.invokevirtual 36, 3) := by decide +kernel
theorem d_CRd_enlarge_28 : decode b_CRd_enlarge 28 = .ok (.aload_n 0, 1) := by decide +kernel
theorem d_CRd_enlarge_29 : decode b_CRd_enlarge 29 = .ok (.dup, 1) := by decide +kernel
theorem d_CRd_enlarge_30 : decode b_CRd_enlarge 30 = .ok (.getfield 33, 3) := by decide +kernel
theorem d_CRd_enlarge_33 : decode b_CRd_enlarge 33 = .ok (.iconst 2, 1) := by decide +kernel
theorem d_CRd_enlarge_34 : decode b_CRd_enlarge 34 = .ok (.imul, 1) := by decide +kernel
theorem d_CRd_enlarge_35 : decode b_CRd_enlarge 35 = .ok (.putfield 33, 3) := by decide +kernel
theorem d_CRd_enlarge_38 : decode b_CRd_enlarge 38 = .ok (.aload_n 0, 1) := by decide +kernel
theorem d_CRd_enlarge_39 : decode b_CRd_enlarge 39 = .ok (.dup, 1) := by decide +kernel
theorem d_CRd_enlarge_40 : decode b_CRd_enlarge 40 = .ok (.getfield 29, 3) := by decide +kernel
theorem d_CRd_enlarge_43 : decode b_CRd_enlarge 43 = .ok (.iconst 2, 1) := by decide +kernel
theorem d_CRd_enlarge_44 : decode b_CRd_enlarge 44 = .ok (.imul, 1) := by decide +kernel
theorem d_CRd_enlarge_45 : decode b_CRd_enlarge 45 = .ok (.putfield 29, 3) := by decide +kernel
theorem d_CRd_enlarge_48 : decode b_CRd_enlarge 48 = .ok (.aload_n 0, 1) := by decide +kernel
theorem d_CRd_enlarge_49 : decode b_CRd_enlarge 49 = .ok (.dup, 1) := by decide +kernel
theorem d_CRd_enlarge_50 : decode b_CRd_enlarge 50 = .ok (.getfield 39, 3) := by decide +kernel
theorem d_CRd_enlarge_53 : decode b_CRd_enlarge 53 = .ok (.iconst 1, 1) := by decide +kernel
theorem d_CRd_enlarge_54 : decode b_CRd_enlarge 54 = .ok (.isub, 1) := by decide +kernel
theorem d_CRd_enlarge_55 : decode b_CRd_enlarge 55 = .ok (.putfield 39, 3) := by decide +kernel
theorem d_CRd_enlarge_58 : decode b_CRd_enlarge 58 = .ok (.iinc 1 1, 3) := by decide +kernel
theorem d_CRd_enlarge_61 : decode b_CRd_enlarge 61 = .ok (.goto (-59), 3) := by decide +kernel
theorem d_CRd_enlarge_64 : decode b_CRd_enlarge 64 = .ok (.return_, 1) := by decide +kernel
theorem d_RWr_init_0 : decode b_RWr_init 0 = .ok (.aload_n 0, 1) := by decide +kernel
theorem d_RWr_init_1 : decode b_RWr_init 1 = .ok (.invokespecial 3, 3) := by decide +kernel
theorem d_RWr_init_4 : decode b_RWr_init 4 = .ok (.aload_n 0, 1) := by decide +kernel
theorem d_RWr_init_5 : decode b_RWr_init 5 = .ok (.aload_n 1, 1) := by decide +kernel
theorem d_RWr_init_6 : decode b_RWr_init 6 = .ok (.putfield 9, 3) := by decide +kernel
theorem d_RWr_init_9 : decode b_RWr_init 9 = .ok (.return_, 1) := by decide +kernel
theorem d_RWr_begin_0 : decode b_RWr_begin 0 = .ok (.aload_n 0, 1) := by decide +kernel
theorem d_RWr_begin_1 : decode b_RWr_begin 1 = .ok (.iconst 0, 1) := by decide +kernel
theorem d_RWr_begin_2 : decode b_RWr_begin 2 = .ok (.putfield 15, 3) := by decide +kernel
theorem d_RWr_begin_5 : decode b_RWr_begin 5 = .ok (.return_, 1) := by decide +kernel
theorem d_RWr_add_0 : decode b_RWr_add 0 = .ok (.aload_n 0, 1) := by decide +kernel
theorem d_RWr_add_1 : decode b_RWr_add 1 = .ok (.getfield 15, 3) := by decide +kernel
theorem d_RWr_add_4 : decode b_RWr_add 4 = .ok (.ifCond .ne 35, 3) := by decide +kernel
theorem d_RWr_add_7 : decode b_RWr_add 7 = .ok (.aload_n 0, 1) := by decide +kernel
theorem d_RWr_add_8 : decode b_RWr_add 8 = .ok (.aload_n 0, 1) := by decide +kernel
theorem d_RWr_add_9 : decode b_RWr_add 9 = .ok (.getfield 9, 3) := by decide +kernel
theorem d_RWr_add_12 : decode b_RWr_add 12 = .ok (.invokevirtual 19, 3) := by decide +kernel
theorem d_RWr_add_15 : decode b_RWr_add 15 = .ok (.sipush 255, 3) := by decide +kernel
theorem d_RWr_add_18 : decode b_RWr_add 18 = .ok (.if_icmp .ne 8, 3) := by decide +kernel
theorem d_RWr_add_21 : decode b_RWr_add 21 = .ok (.bipush 7, 2) := by decide +kernel
theorem d_RWr_add_23 : decode b_RWr_add 23 = .ok (.goto 5, 3) := by decide +kernel
theorem d_RWr_add_26 : decode b_RWr_add 26 = .ok (.bipush 8, 2) := by decide +kernel
theorem d_RWr_add_28 : decode b_RWr_add 28 = .ok (.putfield 15, 3) := by decide +kernel
theorem d_RWr_add_31 : decode b_RWr_add 31 = .ok (.aload_n 0, 1) := by decide +kernel
theorem d_RWr_add_32 : decode b_RWr_add 32 = .ok (.getfield 9, 3) := by decide +kernel
theorem d_RWr_add_35 : decode b_RWr_add 35 = .ok (.iconst 0, 1) := by decide +kernel
theorem d_RWr_add_36 : decode b_RWr_add 36 = .ok (.invokevirtual 25, 3) := by decide +kernel
theorem d_RWr_add_39 : decode b_RWr_add 39 = .ok (.aload_n 0, 1) := by decide +kernel
theorem d_RWr_add_40 : decode b_RWr_add 40 = .ok (.dup, 1) := by decide +kernel
theorem d_RWr_add_41 : decode b_RWr_add 41 = .ok (.getfield 15, 3) := by decide +kernel
theorem d_RWr_add_44 : decode b_RWr_add 44 = .ok (.iconst 1, 1) := by decide +kernel
theorem d_RWr_add_45 : decode b_RWr_add 45 = .ok (.isub, 1) := by decide +kernel
theorem d_RWr_add_46 : decode b_RWr_add 46 = .ok (.putfield 15, 3) := by decide +kernel
theorem d_RWr_add_49 : decode b_RWr_add 49 = .ok (.aload_n 0, 1) := by decide +kernel
theorem d_RWr_add_50 : decode b_RWr_add 50 = .ok (.getfield 9, 3) := by decide +kernel
theorem d_RWr_add_53 : decode b_RWr_add 53 = .ok (.aload_n 0, 1) := by decide +kernel
theorem d_RWr_add_54 : decode b_RWr_add 54 = .ok (.getfield 9, 3) := by decide +kernel
theorem d_RWr_add_57 : decode b_RWr_add 57 = .ok (.invokevirtual 19, 3) := by decide +kernel
theorem d_RWr_add_60 : decode b_RWr_add 60 = .ok (.iload_n 1, 1) := by decide +kernel
theorem d_RWr_add_61 : decode b_RWr_add 61 = .ok (.aload_n 0, 1) := by decide +kernel
theorem d_RWr_add_62 : decode b_RWr_add 62 = .ok (.getfield 15, 3) := by decide +kernel
theorem d_RWr_add_65 : decode b_RWr_add 65 = .ok (.ishl, 1) := by decide +kernel
theorem d_RWr_add_66 : decode b_RWr_add 66 = .ok (.ior, 1) := by decide +kernel
theorem d_RWr_add_67 : decode b_RWr_add 67 = .ok (.invokevirtual 29, 3) := by decide +kernel
theorem d_RWr_add_70 : decode b_RWr_add 70 = .ok (.return_, 1) := by decide +kernel
theorem d_RWr_end_0 : decode b_RWr_end 0 = .ok (.aload_n 0, 1) := by decide +kernel
theorem d_RWr_end_1 : decode b_RWr_end 1 = .ok (.getfield 15, 3) := by decide +kernel
theorem d_RWr_end_4 : decode b_RWr_end 4 = .ok (.istore_n 1, 1) := by decide +kernel
theorem d_RWr_end_5 : decode b_RWr_end 5 = .ok (.iconst 0, 1) := by decide +kernel
theorem d_RWr_end_6 : decode b_RWr_end 6 = .ok (.istore_n 2, 1) := by decide +kernel
theorem d_RWr_end_7 : decode b_RWr_end 7 = .ok (.iload_n 2, 1) := by decide +kernel
theorem d_RWr_end_8 : decode b_RWr_end 8 = .ok (.iload_n 1, 1) := by decide +kernel
theorem d_RWr_end_9 : decode b_RWr_end 9 = .ok (.if_icmp .ge 16, 3) := by decide +kernel
theorem d_RWr_end_12 : decode b_RWr_end 12 = .ok (.aload_n 0, 1) := by decide +kernel
theorem d_RWr_end_13 : decode b_RWr_end 13 = .ok (.iload_n 2, 1) := by decide +kernel
theorem d_RWr_end_14 : decode b_RWr_end 14 = .ok (.iconst 1, 1) := by decide +kernel
theorem d_RWr_end_15 : decode b_RWr_end 15 = .ok (.iand, 1) := by decide +kernel
theorem d_RWr_end_16 : decode b_RWr_end 16 = .ok (.invokevirtual 32, 3) := by decide +kernel
theorem d_RWr_end_19 : decode b_RWr_end 19 = .ok (.iinc 2 1, 3) := by decide +kernel
theorem d_RWr_end_22 : decode b_RWr_end 22 = .ok (.goto (-15), 3) := by decide +kernel
theorem d_RWr_end_25 : decode b_RWr_end 25 = .ok (.return_, 1) := by decide +kernel
theorem d_RRd_init_0 : decode b_RRd_init 0 = .ok (.aload_n 0, 1) := by decide +kernel
theorem d_RRd_init_1 : decode b_RRd_init 1 = .ok (.invokespecial 3, 3) := by decide +kernel
theorem d_RRd_init_4 : decode b_RRd_init 4 = .ok (.aload_n 0, 1) := by decide +kernel
theorem d_RRd_init_5 : decode b_RRd_init 5 = .ok (.aload_n 1, 1) := by decide +kernel
theorem d_RRd_init_6 : decode b_RRd_init 6 = .ok (.putfield 9, 3) := by decide +kernel
theorem d_RRd_init_9 : decode b_RRd_init 9 = .ok (.return_, 1) := by decide +kernel
theorem d_RRd_begin_0 : decode b_RRd_begin 0 = .ok (.aload_n 0, 1) := by decide +kernel
theorem d_RRd_begin_1 : decode b_RRd_begin 1 = .ok (.iconst 0, 1) := by decide +kernel
theorem d_RRd_begin_2 : decode b_RRd_begin 2 = .ok (.putfield 15, 3) := by decide +kernel
theorem d_RRd_begin_5 : decode b_RRd_begin 5 = .ok (.aload_n 0, 1) := by decide +kernel
theorem d_RRd_begin_6 : decode b_RRd_begin 6 = .ok (.iconst 0, 1) := by decide +kernel
theorem d_RRd_begin_7 : decode b_RRd_begin 7 = .ok (.putfield 19, 3) := by decide +kernel
theorem d_RRd_begin_10 : decode b_RRd_begin 10 = .ok (.return_, 1) := by decide +kernel
theorem d_RRd_nextBit_0 : decode b_RRd_nextBit 0 = .ok (.aload_n 0, 1) := by decide +kernel
theorem d_RRd_nextBit_1 : decode b_RRd_nextBit 1 = .ok (.getfield 19, 3) := by decide +kernel
theorem d_RRd_nextBit_4 : decode b_RRd_nextBit 4 = .ok (.ifCond .ne 35, 3) := by decide +kernel
theorem d_RRd_nextBit_7 : decode b_RRd_nextBit 7 = .ok (.aload_n 0, 1) := by decide +kernel
theorem d_RRd_nextBit_8 : decode b_RRd_nextBit 8 = .ok (.aload_n 0, 1) := by decide +kernel
theorem d_RRd_nextBit_9 : decode b_RRd_nextBit 9 = .ok (.getfield 15, 3) := by decide +kernel
theorem d_RRd_nextBit_12 : decode b_RRd_nextBit 12 = .ok (.sipush 255, 3) := by decide +kernel
theorem d_RRd_nextBit_15 : decode b_RRd_nextBit 15 = .ok (.if_icmp .ne 8, 3) := by decide +kernel
theorem d_RRd_nextBit_18 : decode b_RRd_nextBit 18 = .ok (.bipush 7, 2) := by decide +kernel
theorem d_RRd_nextBit_20 : decode b_RRd_nextBit 20 = .ok (.goto 5, 3) := by decide +kernel
theorem d_RRd_nextBit_23 : decode b_RRd_nextBit 23 = .ok (.bipush 8, 2) := by decide +kernel
theorem d_RRd_nextBit_25 : decode b_RRd_nextBit 25 = .ok (.putfield 19, 3) := by decide +kernel
theorem d_RRd_nextBit_28 : decode b_RRd_nextBit 28 = .ok (.aload_n 0, 1) := by decide +kernel
theorem d_RRd_nextBit_29 : decode b_RRd_nextBit 29 = .ok (.aload_n 0, 1) := by decide +kernel
theorem d_RRd_nextBit_30 : decode b_RRd_nextBit 30 = .ok (.getfield 9, 3) := by decide +kernel
theorem d_RRd_nextBit_33 : decode b_RRd_nextBit 33 = .ok (.invokevirtual 22, 3) := by decide +kernel
theorem d_RRd_nextBit_36 : decode b_RRd_nextBit 36 = .ok (.putfield 15, 3) := by decide +kernel
theorem d_RRd_nextBit_39 : decode b_RRd_nextBit 39 = .ok (.aload_n 0, 1) := by decide +kernel
theorem d_RRd_nextBit_40 : decode b_RRd_nextBit 40 = .ok (.dup, 1) := by decide +kernel
theorem d_RRd_nextBit_41 : decode b_RRd_nextBit 41 = .ok (.getfield 19, 3) := by decide +kernel
theorem d_RRd_nextBit_44 : decode b_RRd_nextBit 44 = .ok (.iconst 1, 1) := by decide +kernel
theorem d_RRd_nextBit_45 : decode b_RRd_nextBit 45 = .ok (.isub, 1) := by decide +kernel
theorem d_RRd_nextBit_46 : decode b_RRd_nextBit 46 = .ok (.putfield 19, 3) := by decide +kernel
theorem d_RRd_nextBit_49 : decode b_RRd_nextBit 49 = .ok (.aload_n 0, 1) := by decide +kernel
theorem d_RRd_nextBit_50 : decode b_RRd_nextBit 50 = .ok (.getfield 15, 3) := by decide +kernel
theorem d_RRd_nextBit_53 : decode b_RRd_nextBit 53 = .ok (.aload_n 0, 1) := by decide +kernel
theorem d_RRd_nextBit_54 : decode b_RRd_nextBit 54 = .ok (.getfield 19, 3) := by decide +kernel
theorem d_RRd_nextBit_57 : decode b_RRd_nextBit 57 = .ok (.iushr, 1) := by decide +kernel
theorem d_RRd_nextBit_58 : decode b_RRd_nextBit 58 = .ok (.iconst 1, 1) := by decide +kernel
theorem d_RRd_nextBit_59 : decode b_RRd_nextBit 59 = .ok (.iand, 1) := by decide +kernel
theorem d_RRd_nextBit_60 : decode b_RRd_nextBit 60 = .ok (.ireturn, 1) := by decide +kernel
theorem d_LB_init_0 : decode b_LB_init 0 = .ok (.aload_n 0, 1) := by decide +kernel
theorem d_LB_init_1 : decode b_LB_init 1 = .ok (.invokespecial 1, 3) := by decide +kernel
theorem d_LB_init_4 : decode b_LB_init 4 = .ok (.aload_n 0, 1) := by decide +kernel
theorem d_LB_init_5 : decode b_LB_init 5 = .ok (.new 7, 3) := by decide +kernel
theorem d_LB_init_8 : decode b_LB_init 8 = .ok (.dup, 1) := by decide +kernel
theorem d_LB_init_9 : decode b_LB_init 9 = .ok (.invokespecial 9, 3) := by decide +kernel
theorem d_LB_init_12 : decode b_LB_init 12 = .ok (.putfield 10, 3) := by decide +kernel
theorem d_LB_init_15 : decode b_LB_init 15 = .ok (.aload_n 0, 1) := by decide +kernel
theorem d_LB_init_16 : decode b_LB_init 16 = .ok (.new 16, 3) := by decide +kernel
theorem d_LB_init_19 : decode b_LB_init 19 = .ok (.dup, 1) := by decide +kernel
theorem d_LB_init_20 : decode b_LB_init 20 = .ok (.invokespecial 18, 3) := by decide +kernel
theorem d_LB_init_23 : decode b_LB_init 23 = .ok (.putfield 19, 3) := by decide +kernel
theorem d_LB_init_26 : decode b_LB_init 26 = .ok (.aload_n 0, 1) := by decide +kernel
theorem d_LB_init_27 : decode b_LB_init 27 = .ok (.new 16, 3) := by decide +kernel
theorem d_LB_init_30 : decode b_LB_init 30 = .ok (.dup, 1) := by decide +kernel
theorem d_LB_init_31 : decode b_LB_init 31 = .ok (.invokespecial 18, 3) := by decide +kernel
theorem d_LB_init_34 : decode b_LB_init 34 = .ok (.putfield 23, 3) := by decide +kernel
theorem d_LB_init_37 : decode b_LB_init 37 = .ok (.aload_n 0, 1) := by decide +kernel
theorem d_LB_init_38 : decode b_LB_init 38 = .ok (.new 26, 3) := by decide +kernel
theorem d_LB_init_41 : decode b_LB_init 41 = .ok (.dup, 1) := by decide +kernel
theorem d_LB_init_42 : decode b_LB_init 42 = .ok (.aload_n 0, 1) := by decide +kernel
theorem d_LB_init_43 : decode b_LB_init 43 = .ok (.getfield 10, 3) := by decide +kernel
theorem d_LB_init_46 : decode b_LB_init 46 = .ok (.invokespecial 28, 3) := by decide +kernel
theorem d_LB_init_49 : decode b_LB_init 49 = .ok (.putfield 31, 3) := by decide +kernel
theorem d_LB_init_52 : decode b_LB_init 52 = .ok (.aload_n 0, 1) := by decide +kernel
theorem d_LB_init_53 : decode b_LB_init 53 = .ok (.new 35, 3) := by decide +kernel
theorem d_LB_init_56 : decode b_LB_init 56 = .ok (.dup, 1) := by decide +kernel
theorem d_LB_init_57 : decode b_LB_init 57 = .ok (.aload_n 0, 1) := by decide +kernel
theorem d_LB_init_58 : decode b_LB_init 58 = .ok (.getfield 31, 3) := by decide +kernel
theorem d_LB_init_61 : decode b_LB_init 61 = .ok (.aload_n 0, 1) := by decide +kernel
theorem d_LB_init_62 : decode b_LB_init 62 = .ok (.getfield 19, 3) := by decide +kernel
theorem d_LB_init_65 : decode b_LB_init 65 = .ok (.invokespecial 37, 3) := by decide +kernel
theorem d_LB_init_68 : decode b_LB_init 68 = .ok (.putfield 40, 3) := by decide +kernel
theorem d_LB_init_71 : decode b_LB_init 71 = .ok (.aload_n 0, 1) := by decide +kernel
theorem d_LB_init_72 : decode b_LB_init 72 = .ok (.new 44, 3) := by decide +kernel
theorem d_LB_init_75 : decode b_LB_init 75 = .ok (.dup, 1) := by decide +kernel
theorem d_LB_init_76 : decode b_LB_init 76 = .ok (.aload_n 0, 1) := by decide +kernel
theorem d_LB_init_77 : decode b_LB_init 77 = .ok (.getfield 31, 3) := by decide +kernel
theorem d_LB_init_80 : decode b_LB_init 80 = .ok (.invokespecial 46, 3) := by decide +kernel
theorem d_LB_init_83 : decode b_LB_init 83 = .ok (.putfield 49, 3) := by decide +kernel
theorem d_LB_init_86 : decode b_LB_init 86 = .ok (.aload_n 0, 1) := by decide +kernel
theorem d_LB_init_87 : decode b_LB_init 87 = .ok (.new 53, 3) := by decide +kernel
theorem d_LB_init_90 : decode b_LB_init 90 = .ok (.dup, 1) := by decide +kernel
theorem d_LB_init_91 : decode b_LB_init 91 = .ok (.aload_n 0, 1) := by decide +kernel
theorem d_LB_init_92 : decode b_LB_init 92 = .ok (.getfield 10, 3) := by decide +kernel
theorem d_LB_init_95 : decode b_LB_init 95 = .ok (.invokespecial 55, 3) := by decide +kernel
theorem d_LB_init_98 : decode b_LB_init 98 = .ok (.putfield 56, 3) := by decide +kernel
theorem d_LB_init_101 : decode b_LB_init 101 = .ok (.aload_n 0, 1) := by decide +kernel
theorem d_LB_init_102 : decode b_LB_init 102 = .ok (.new 60, 3) := by decide +kernel
theorem d_LB_init_105 : decode b_LB_init 105 = .ok (.dup, 1) := by decide +kernel
theorem d_LB_init_106 : decode b_LB_init 106 = .ok (.aload_n 0, 1) := by decide +kernel
theorem d_LB_init_107 : decode b_LB_init 107 = .ok (.getfield 56, 3) := by decide +kernel
theorem d_LB_init_110 : decode b_LB_init 110 = .ok (.aload_n 0, 1) := by decide +kernel
theorem d_LB_init_111 : decode b_LB_init 111 = .ok (.getfield 23, 3) := by decide +kernel
theorem d_LB_init_114 : decode b_LB_init 114 = .ok (.invokespecial 62, 3) := by decide +kernel
theorem d_LB_init_117 : decode b_LB_init 117 = .ok (.putfield 65, 3) := by decide +kernel
theorem d_LB_init_120 : decode b_LB_init 120 = .ok (.aload_n 0, 1) := by decide +kernel
theorem d_LB_init_121 : decode b_LB_init 121 = .ok (.new 69, 3) := by decide +kernel
theorem d_LB_init_124 : decode b_LB_init 124 = .ok (.dup, 1) := by decide +kernel
theorem d_LB_init_125 : decode b_LB_init 125 = .ok (.aload_n 0, 1) := by decide +kernel
theorem d_LB_init_126 : decode b_LB_init 126 = .ok (.getfield 56, 3) := by decide +kernel
theorem d_LB_init_129 : decode b_LB_init 129 = .ok (.invokespecial 71, 3) := by decide +kernel
theorem d_LB_init_132 : decode b_LB_init 132 = .ok (.putfield 74, 3) := by decide +kernel
theorem d_LB_init_135 : decode b_LB_init 135 = .ok (.return_, 1) := by decide +kernel
theorem d_LB_clear_0 : decode b_LB_clear 0 = .ok (.aload_n 0, 1) := by decide +kernel
theorem d_LB_clear_1 : decode b_LB_clear 1 = .ok (.getfield 10, 3) := by decide +kernel
theorem d_LB_clear_4 : decode b_LB_clear 4 = .ok (.invokevirtual 78, 3) := by decide +kernel
theorem d_LB_clear_7 : decode b_LB_clear 7 = .ok (.aload_n 0, 1) := by decide +kernel
theorem d_LB_clear_8 : decode b_LB_clear 8 = .ok (.iconst 0, 1) := by decide +kernel
theorem d_LB_clear_9 : decode b_LB_clear 9 = .ok (.putfield 81, 3) := by decide +kernel
theorem d_LB_clear_12 : decode b_LB_clear 12 = .ok (.aload_n 0, 1) := by decide +kernel
theorem d_LB_clear_13 : decode b_LB_clear 13 = .ok (.iconst 0, 1) := by decide +kernel
theorem d_LB_clear_14 : decode b_LB_clear 14 = .ok (.putfield 85, 3) := by decide +kernel
theorem d_LB_clear_17 : decode b_LB_clear 17 = .ok (.return_, 1) := by decide +kernel
theorem d_LB_put_0 : decode b_LB_put 0 = .ok (.iload_n 1, 1) := by decide +kernel
theorem d_LB_put_1 : decode b_LB_put 1 = .ok (.ifCond .lt 10, 3) := by decide +kernel
theorem d_LB_put_4 : decode b_LB_put 4 = .ok (.iload_n 1, 1) := by decide +kernel
theorem d_LB_put_5 : decode b_LB_put 5 = .ok (.sipush 255, 3) := by decide +kernel
theorem d_LB_put_8 : decode b_LB_put 8 = .ok (.if_icmp .le 13, 3) := by decide +kernel
theorem d_LB_put_11 : decode b_LB_put 11 = .ok (.new 88, 3) := by decide +kernel
theorem d_LB_put_14 : decode b_LB_put 14 = .ok (.dup, 1) := by decide +kernel
theorem d_LB_put_15 : decode b_LB_put 15 = .ok (.ldc 90, 2) := by decide +kernel
end
section
theorem d_LB_put_17 : decode b_LB_put 17 = .ok (.invokespecial 92, 3) := by decide +kernel
theorem d_LB_put_20 : decode b_LB_put 20 = .ok (.athrow, 1) := by decide +kernel
theorem d_LB_put_21 : decode b_LB_put 21 = .ok (.aload_n 0, 1) := by decide +kernel
theorem d_LB_put_22 : decode b_LB_put 22 = .ok (.getfield 81, 3) := by decide +kernel
theorem d_LB_put_25 : decode b_LB_put 25 = .ok (.ifCond .eq 13, 3) := by decide +kernel
theorem d_LB_put_28 : decode b_LB_put 28 = .ok (.new 95, 3) := by decide +kernel
theorem d_LB_put_31 : decode b_LB_put 31 = .ok (.dup, 1) := by decide +kernel
theorem d_LB_put_32 : decode b_LB_put 32 = .ok (.ldc 97, 2) := by decide +kernel
theorem d_LB_put_34 : decode b_LB_put 34 = .ok (.invokespecial 99, 3) := by decide +kernel
theorem d_LB_put_37 : decode b_LB_put 37 = .ok (.athrow, 1) := by decide +kernel
theorem d_LB_put_38 : decode b_LB_put 38 = .ok (.aload_n 0, 1) := by decide +kernel
theorem d_LB_put_39 : decode b_LB_put 39 = .ok (.getfield 10, 3) := by decide +kernel
theorem d_LB_put_42 : decode b_LB_put 42 = .ok (.invokevirtual 100, 3) := by decide +kernel
theorem d_LB_put_45 : decode b_LB_put 45 = .ok (.ldc 104, 2) := by decide +kernel
theorem d_LB_put_47 : decode b_LB_put 47 = .ok (.if_icmp .lt 13, 3) := by decide +kernel
theorem d_LB_put_50 : decode b_LB_put 50 = .ok (.new 105, 3) := by decide +kernel
theorem d_LB_put_53 : decode b_LB_put 53 = .ok (.dup, 1) := by decide +kernel
theorem d_LB_put_54 : decode b_LB_put 54 = .ok (.ldc 107, 2) := by decide +kernel
theorem d_LB_put_56 : decode b_LB_put 56 = .ok (.invokespecial 109, 3) := by decide +kernel
theorem d_LB_put_59 : decode b_LB_put 59 = .ok (.athrow, 1) := by decide +kernel
theorem d_LB_put_60 : decode b_LB_put 60 = .ok (.aload_n 0, 1) := by decide +kernel
theorem d_LB_put_61 : decode b_LB_put 61 = .ok (.getfield 10, 3) := by decide +kernel
theorem d_LB_put_64 : decode b_LB_put 64 = .ok (.iload_n 1, 1) := by decide +kernel
theorem d_LB_put_65 : decode b_LB_put 65 = .ok (.invokevirtual 110, 3) := by decide +kernel
theorem d_LB_put_68 : decode b_LB_put 68 = .ok (.aload_n 0, 1) := by decide +kernel
theorem d_LB_put_69 : decode b_LB_put 69 = .ok (.getfield 10, 3) := by decide +kernel
theorem d_LB_put_72 : decode b_LB_put 72 = .ok (.invokevirtual 100, 3) := by decide +kernel
theorem d_LB_put_75 : decode b_LB_put 75 = .ok (.ireturn, 1) := by decide +kernel
theorem d_LB_at_0 : decode b_LB_at 0 = .ok (.iload_n 1, 1) := by decide +kernel
theorem d_LB_at_1 : decode b_LB_at 1 = .ok (.iconst (-1), 1) := by decide +kernel
theorem d_LB_at_2 : decode b_LB_at 2 = .ok (.if_icmp .ne 11, 3) := by decide +kernel
theorem d_LB_at_5 : decode b_LB_at 5 = .ok (.aload_n 0, 1) := by decide +kernel
theorem d_LB_at_6 : decode b_LB_at 6 = .ok (.getfield 10, 3) := by decide +kernel
theorem d_LB_at_9 : decode b_LB_at 9 = .ok (.invokevirtual 100, 3) := by decide +kernel
theorem d_LB_at_12 : decode b_LB_at 12 = .ok (.ireturn, 1) := by decide +kernel
theorem d_LB_at_13 : decode b_LB_at 13 = .ok (.iload_n 1, 1) := by decide +kernel
theorem d_LB_at_14 : decode b_LB_at 14 = .ok (.ifCond .lt 14, 3) := by decide +kernel
theorem d_LB_at_17 : decode b_LB_at 17 = .ok (.iload_n 1, 1) := by decide +kernel
theorem d_LB_at_18 : decode b_LB_at 18 = .ok (.aload_n 0, 1) := by decide +kernel
theorem d_LB_at_19 : decode b_LB_at 19 = .ok (.getfield 10, 3) := by decide +kernel
theorem d_LB_at_22 : decode b_LB_at 22 = .ok (.invokevirtual 100, 3) := by decide +kernel
theorem d_LB_at_25 : decode b_LB_at 25 = .ok (.if_icmp .lt 13, 3) := by decide +kernel
theorem d_LB_at_28 : decode b_LB_at 28 = .ok (.new 114, 3) := by decide +kernel
theorem d_LB_at_31 : decode b_LB_at 31 = .ok (.dup, 1) := by decide +kernel
theorem d_LB_at_32 : decode b_LB_at 32 = .ok (.ldc 116, 2) := by decide +kernel
theorem d_LB_at_34 : decode b_LB_at 34 = .ok (.invokespecial 118, 3) := by decide +kernel
theorem d_LB_at_37 : decode b_LB_at 37 = .ok (.athrow, 1) := by decide +kernel
theorem d_LB_at_38 : decode b_LB_at 38 = .ok (.aload_n 0, 1) := by decide +kernel
theorem d_LB_at_39 : decode b_LB_at 39 = .ok (.getfield 10, 3) := by decide +kernel
theorem d_LB_at_42 : decode b_LB_at 42 = .ok (.iload_n 1, 1) := by decide +kernel
theorem d_LB_at_43 : decode b_LB_at 43 = .ok (.invokevirtual 119, 3) := by decide +kernel
theorem d_LB_at_46 : decode b_LB_at 46 = .ok (.ireturn, 1) := by decide +kernel
theorem d_LB_context_0 : decode b_LB_context 0 = .ok (.iload_n 2, 1) := by decide +kernel
theorem d_LB_context_1 : decode b_LB_context 1 = .ok (.invokestatic 123, 3) := by decide +kernel
theorem d_LB_context_4 : decode b_LB_context 4 = .ok (.ifCond .ne 13, 3) := by decide +kernel
theorem d_LB_context_7 : decode b_LB_context 7 = .ok (.new 88, 3) := by decide +kernel
theorem d_LB_context_10 : decode b_LB_context 10 = .ok (.dup, 1) := by decide +kernel
theorem d_LB_context_11 : decode b_LB_context 11 = .ok (.ldc 127, 2) := by decide +kernel
theorem d_LB_context_13 : decode b_LB_context 13 = .ok (.invokespecial 92, 3) := by decide +kernel
theorem d_LB_context_16 : decode b_LB_context 16 = .ok (.athrow, 1) := by decide +kernel
theorem d_LB_context_17 : decode b_LB_context 17 = .ok (.iload_n 3, 1) := by decide +kernel
theorem d_LB_context_18 : decode b_LB_context 18 = .ok (.ifCond .lt 9, 3) := by decide +kernel
theorem d_LB_context_21 : decode b_LB_context 21 = .ok (.iload_n 3, 1) := by decide +kernel
theorem d_LB_context_22 : decode b_LB_context 22 = .ok (.bipush 47, 2) := by decide +kernel
theorem d_LB_context_24 : decode b_LB_context 24 = .ok (.if_icmp .lt 13, 3) := by decide +kernel
theorem d_LB_context_27 : decode b_LB_context 27 = .ok (.new 88, 3) := by decide +kernel
theorem d_LB_context_30 : decode b_LB_context 30 = .ok (.dup, 1) := by decide +kernel
theorem d_LB_context_31 : decode b_LB_context 31 = .ok (.ldc 129, 2) := by decide +kernel
theorem d_LB_context_33 : decode b_LB_context 33 = .ok (.invokespecial 92, 3) := by decide +kernel
theorem d_LB_context_36 : decode b_LB_context 36 = .ok (.athrow, 1) := by decide +kernel
theorem d_LB_context_37 : decode b_LB_context 37 = .ok (.iload 4, 2) := by decide +kernel
theorem d_LB_context_39 : decode b_LB_context 39 = .ok (.ifCond .eq 19, 3) := by decide +kernel
theorem d_LB_context_42 : decode b_LB_context 42 = .ok (.iload 4, 2) := by decide +kernel
theorem d_LB_context_44 : decode b_LB_context 44 = .ok (.iconst 1, 1) := by decide +kernel
theorem d_LB_context_45 : decode b_LB_context 45 = .ok (.if_icmp .eq 13, 3) := by decide +kernel
theorem d_LB_context_48 : decode b_LB_context 48 = .ok (.new 88, 3) := by decide +kernel
theorem d_LB_context_51 : decode b_LB_context 51 = .ok (.dup, 1) := by decide +kernel
theorem d_LB_context_52 : decode b_LB_context 52 = .ok (.ldc 131, 2) := by decide +kernel
theorem d_LB_context_54 : decode b_LB_context 54 = .ok (.invokespecial 92, 3) := by decide +kernel
theorem d_LB_context_57 : decode b_LB_context 57 = .ok (.athrow, 1) := by decide +kernel
theorem d_LB_context_58 : decode b_LB_context 58 = .ok (.aload_n 0, 1) := by decide +kernel
theorem d_LB_context_59 : decode b_LB_context 59 = .ok (.iload_n 1, 1) := by decide +kernel
theorem d_LB_context_60 : decode b_LB_context 60 = .ok (.invokevirtual 133, 3) := by decide +kernel
theorem d_LB_context_63 : decode b_LB_context 63 = .ok (.iload_n 2, 1) := by decide +kernel
theorem d_LB_context_64 : decode b_LB_context 64 = .ok (.iload_n 3, 1) := by decide +kernel
theorem d_LB_context_65 : decode b_LB_context 65 = .ok (.iload 4, 2) := by decide +kernel
theorem d_LB_context_67 : decode b_LB_context 67 = .ok (.invokevirtual 137, 3) := by decide +kernel
theorem d_LB_context_70 : decode b_LB_context 70 = .ok (.return_, 1) := by decide +kernel
theorem d_LB_state_0 : decode b_LB_state 0 = .ok (.iload_n 2, 1) := by decide +kernel
theorem d_LB_state_1 : decode b_LB_state 1 = .ok (.invokestatic 123, 3) := by decide +kernel
theorem d_LB_state_4 : decode b_LB_state 4 = .ok (.ifCond .ne 13, 3) := by decide +kernel
theorem d_LB_state_7 : decode b_LB_state 7 = .ok (.new 88, 3) := by decide +kernel
theorem d_LB_state_10 : decode b_LB_state 10 = .ok (.dup, 1) := by decide +kernel
theorem d_LB_state_11 : decode b_LB_state 11 = .ok (.ldc 127, 2) := by decide +kernel
theorem d_LB_state_13 : decode b_LB_state 13 = .ok (.invokespecial 92, 3) := by decide +kernel
theorem d_LB_state_16 : decode b_LB_state 16 = .ok (.athrow, 1) := by decide +kernel
theorem d_LB_state_17 : decode b_LB_state 17 = .ok (.aload_n 0, 1) := by decide +kernel
theorem d_LB_state_18 : decode b_LB_state 18 = .ok (.iload_n 1, 1) := by decide +kernel
theorem d_LB_state_19 : decode b_LB_state 19 = .ok (.invokevirtual 133, 3) := by decide +kernel
theorem d_LB_state_22 : decode b_LB_state 22 = .ok (.astore_n 3, 1) := by decide +kernel
theorem d_LB_state_23 : decode b_LB_state 23 = .ok (.iconst 2, 1) := by decide +kernel
theorem d_LB_state_24 : decode b_LB_state 24 = .ok (.aload_n 3, 1) := by decide +kernel
theorem d_LB_state_25 : decode b_LB_state 25 = .ok (.iload_n 2, 1) := by decide +kernel
theorem d_LB_state_26 : decode b_LB_state 26 = .ok (.invokevirtual 141, 3) := by decide +kernel
theorem d_LB_state_29 : decode b_LB_state 29 = .ok (.imul, 1) := by decide +kernel
theorem d_LB_state_30 : decode b_LB_state 30 = .ok (.aload_n 3, 1) := by decide +kernel
theorem d_LB_state_31 : decode b_LB_state 31 = .ok (.iload_n 2, 1) := by decide +kernel
theorem d_LB_state_32 : decode b_LB_state 32 = .ok (.invokevirtual 144, 3) := by decide +kernel
theorem d_LB_state_35 : decode b_LB_state 35 = .ok (.iadd, 1) := by decide +kernel
theorem d_LB_state_36 : decode b_LB_state 36 = .ok (.ireturn, 1) := by decide +kernel
theorem d_LB_open_0 : decode b_LB_open 0 = .ok (.aload_n 0, 1) := by decide +kernel
theorem d_LB_open_1 : decode b_LB_open 1 = .ok (.getfield 81, 3) := by decide +kernel
theorem d_LB_open_4 : decode b_LB_open 4 = .ok (.ifCond .eq 13, 3) := by decide +kernel
theorem d_LB_open_7 : decode b_LB_open 7 = .ok (.new 95, 3) := by decide +kernel
theorem d_LB_open_10 : decode b_LB_open 10 = .ok (.dup, 1) := by decide +kernel
theorem d_LB_open_11 : decode b_LB_open 11 = .ok (.ldc 97, 2) := by decide +kernel
theorem d_LB_open_13 : decode b_LB_open 13 = .ok (.invokespecial 99, 3) := by decide +kernel
theorem d_LB_open_16 : decode b_LB_open 16 = .ok (.athrow, 1) := by decide +kernel
theorem d_LB_open_17 : decode b_LB_open 17 = .ok (.aload_n 0, 1) := by decide +kernel
theorem d_LB_open_18 : decode b_LB_open 18 = .ok (.iconst 0, 1) := by decide +kernel
theorem d_LB_open_19 : decode b_LB_open 19 = .ok (.putfield 85, 3) := by decide +kernel
theorem d_LB_open_22 : decode b_LB_open 22 = .ok (.aload_n 0, 1) := by decide +kernel
theorem d_LB_open_23 : decode b_LB_open 23 = .ok (.iconst 1, 1) := by decide +kernel
theorem d_LB_open_24 : decode b_LB_open 24 = .ok (.putfield 81, 3) := by decide +kernel
theorem d_LB_open_27 : decode b_LB_open 27 = .ok (.aload_n 0, 1) := by decide +kernel
theorem d_LB_open_28 : decode b_LB_open 28 = .ok (.iload_n 1, 1) := by decide +kernel
theorem d_LB_open_29 : decode b_LB_open 29 = .ok (.putfield 147, 3) := by decide +kernel
theorem d_LB_open_32 : decode b_LB_open 32 = .ok (.aload_n 0, 1) := by decide +kernel
theorem d_LB_open_33 : decode b_LB_open 33 = .ok (.getfield 31, 3) := by decide +kernel
theorem d_LB_open_36 : decode b_LB_open 36 = .ok (.invokevirtual 150, 3) := by decide +kernel
theorem d_LB_open_39 : decode b_LB_open 39 = .ok (.iload_n 1, 1) := by decide +kernel
theorem d_LB_open_40 : decode b_LB_open 40 = .ok (.ifCond .eq 13, 3) := by decide +kernel
theorem d_LB_open_43 : decode b_LB_open 43 = .ok (.aload_n 0, 1) := by decide +kernel
theorem d_LB_open_44 : decode b_LB_open 44 = .ok (.getfield 49, 3) := by decide +kernel
theorem d_LB_open_47 : decode b_LB_open 47 = .ok (.invokevirtual 153, 3) := by decide +kernel
theorem d_LB_open_50 : decode b_LB_open 50 = .ok (.goto 10, 3) := by decide +kernel
theorem d_LB_open_53 : decode b_LB_open 53 = .ok (.aload_n 0, 1) := by decide +kernel
theorem d_LB_open_54 : decode b_LB_open 54 = .ok (.getfield 40, 3) := by decide +kernel
theorem d_LB_open_57 : decode b_LB_open 57 = .ok (.invokevirtual 154, 3) := by decide +kernel
theorem d_LB_open_60 : decode b_LB_open 60 = .ok (.return_, 1) := by decide +kernel
theorem d_LB_write_0 : decode b_LB_write 0 = .ok (.aload_n 0, 1) := by decide +kernel
theorem d_LB_write_1 : decode b_LB_write 1 = .ok (.getfield 81, 3) := by decide +kernel
theorem d_LB_write_4 : decode b_LB_write 4 = .ok (.ifCond .ne 13, 3) := by decide +kernel
theorem d_LB_write_7 : decode b_LB_write 7 = .ok (.new 95, 3) := by decide +kernel
theorem d_LB_write_10 : decode b_LB_write 10 = .ok (.dup, 1) := by decide +kernel
theorem d_LB_write_11 : decode b_LB_write 11 = .ok (.ldc 155, 2) := by decide +kernel
theorem d_LB_write_13 : decode b_LB_write 13 = .ok (.invokespecial 99, 3) := by decide +kernel
theorem d_LB_write_16 : decode b_LB_write 16 = .ok (.athrow, 1) := by decide +kernel
theorem d_LB_write_17 : decode b_LB_write 17 = .ok (.iload_n 1, 1) := by decide +kernel
theorem d_LB_write_18 : decode b_LB_write 18 = .ok (.aload_n 0, 1) := by decide +kernel
theorem d_LB_write_19 : decode b_LB_write 19 = .ok (.getfield 147, 3) := by decide +kernel
theorem d_LB_write_22 : decode b_LB_write 22 = .ok (.invokestatic 157, 3) := by decide +kernel
theorem d_LB_write_25 : decode b_LB_write 25 = .ok (.ifCond .ne 13, 3) := by decide +kernel
theorem d_LB_write_28 : decode b_LB_write 28 = .ok (.new 88, 3) := by decide +kernel
theorem d_LB_write_31 : decode b_LB_write 31 = .ok (.dup, 1) := by decide +kernel
theorem d_LB_write_32 : decode b_LB_write 32 = .ok (.ldc 161, 2) := by decide +kernel
theorem d_LB_write_34 : decode b_LB_write 34 = .ok (.invokespecial 92, 3) := by decide +kernel
theorem d_LB_write_37 : decode b_LB_write 37 = .ok (.athrow, 1) := by decide +kernel
theorem d_LB_write_38 : decode b_LB_write 38 = .ok (.iload 4, 2) := by decide +kernel
theorem d_LB_write_40 : decode b_LB_write 40 = .ok (.iconst 1, 1) := by decide +kernel
theorem d_LB_write_41 : decode b_LB_write 41 = .ok (.if_icmp .lt 10, 3) := by decide +kernel
theorem d_LB_write_44 : decode b_LB_write 44 = .ok (.iload 4, 2) := by decide +kernel
theorem d_LB_write_46 : decode b_LB_write 46 = .ok (.bipush 64, 2) := by decide +kernel
theorem d_LB_write_48 : decode b_LB_write 48 = .ok (.if_icmp .le 13, 3) := by decide +kernel
theorem d_LB_write_51 : decode b_LB_write 51 = .ok (.new 88, 3) := by decide +kernel
theorem d_LB_write_54 : decode b_LB_write 54 = .ok (.dup, 1) := by decide +kernel
theorem d_LB_write_55 : decode b_LB_write 55 = .ok (.ldc 163, 2) := by decide +kernel
theorem d_LB_write_57 : decode b_LB_write 57 = .ok (.invokespecial 92, 3) := by decide +kernel
theorem d_LB_write_60 : decode b_LB_write 60 = .ok (.athrow, 1) := by decide +kernel
theorem d_LB_write_61 : decode b_LB_write 61 = .ok (.aload_n 0, 1) := by decide +kernel
theorem d_LB_write_62 : decode b_LB_write 62 = .ok (.getfield 10, 3) := by decide +kernel
theorem d_LB_write_65 : decode b_LB_write 65 = .ok (.invokevirtual 100, 3) := by decide +kernel
theorem d_LB_write_68 : decode b_LB_write 68 = .ok (.ldc 165, 2) := by decide +kernel
theorem d_LB_write_70 : decode b_LB_write 70 = .ok (.if_icmp .le 13, 3) := by decide +kernel
theorem d_LB_write_73 : decode b_LB_write 73 = .ok (.new 105, 3) := by decide +kernel
theorem d_LB_write_76 : decode b_LB_write 76 = .ok (.dup, 1) := by decide +kernel
theorem d_LB_write_77 : decode b_LB_write 77 = .ok (.ldc 166, 2) := by decide +kernel
theorem d_LB_write_79 : decode b_LB_write 79 = .ok (.invokespecial 109, 3) := by decide +kernel
theorem d_LB_write_82 : decode b_LB_write 82 = .ok (.athrow, 1) := by decide +kernel
theorem d_LB_write_83 : decode b_LB_write 83 = .ok (.iload 4, 2) := by decide +kernel
theorem d_LB_write_85 : decode b_LB_write 85 = .ok (.iconst 1, 1) := by decide +kernel
theorem d_LB_write_86 : decode b_LB_write 86 = .ok (.isub, 1) := by decide +kernel
theorem d_LB_write_87 : decode b_LB_write 87 = .ok (.istore 5, 2) := by decide +kernel
theorem d_LB_write_89 : decode b_LB_write 89 = .ok (.iload 5, 2) := by decide +kernel
theorem d_LB_write_91 : decode b_LB_write 91 = .ok (.ifCond .lt 47, 3) := by decide +kernel
theorem d_LB_write_94 : decode b_LB_write 94 = .ok (.lload_n 2, 1) := by decide +kernel
theorem d_LB_write_95 : decode b_LB_write 95 = .ok (.iload 5, 2) := by decide +kernel
theorem d_LB_write_97 : decode b_LB_write 97 = .ok (.lushr, 1) := by decide +kernel
theorem d_LB_write_98 : decode b_LB_write 98 = .ok (.l2i, 1) := by decide +kernel
theorem d_LB_write_99 : decode b_LB_write 99 = .ok (.iconst 1, 1) := by decide +kernel
theorem d_LB_write_100 : decode b_LB_write 100 = .ok (.iand, 1) := by decide +kernel
theorem d_LB_write_101 : decode b_LB_write 101 = .ok (.istore 6, 2) := by decide +kernel
theorem d_LB_write_103 : decode b_LB_write 103 = .ok (.aload_n 0, 1) := by decide +kernel
theorem d_LB_write_104 : decode b_LB_write 104 = .ok (.getfield 147, 3) := by decide +kernel
theorem d_LB_write_107 : decode b_LB_write 107 = .ok (.ifCond .eq 15, 3) := by decide +kernel
theorem d_LB_write_110 : decode b_LB_write 110 = .ok (.aload_n 0, 1) := by decide +kernel
theorem d_LB_write_111 : decode b_LB_write 111 = .ok (.getfield 49, 3) := by decide +kernel
theorem d_LB_write_114 : decode b_LB_write 114 = .ok (.iload 6, 2) := by decide +kernel
theorem d_LB_write_116 : decode b_LB_write 116 = .ok (.invokevirtual 168, 3) := by decide +kernel
theorem d_LB_write_119 : decode b_LB_write 119 = .ok (.goto 13, 3) := by decide +kernel
theorem d_LB_write_122 : decode b_LB_write 122 = .ok (.aload_n 0, 1) := by decide +kernel
theorem d_LB_write_123 : decode b_LB_write 123 = .ok (.getfield 40, 3) := by decide +kernel
theorem d_LB_write_126 : decode b_LB_write 126 = .ok (.iload_n 1, 1) := by decide +kernel
theorem d_LB_write_127 : decode b_LB_write 127 = .ok (.iload 6, 2) := by decide +kernel
theorem d_LB_write_129 : decode b_LB_write 129 = .ok (.invokevirtual 171, 3) := by decide +kernel
theorem d_LB_write_132 : decode b_LB_write 132 = .ok (.iinc 5 (-1), 3) := by decide +kernel
theorem d_LB_write_135 : decode b_LB_write 135 = .ok (.goto (-46), 3) := by decide +kernel
theorem d_LB_write_138 : decode b_LB_write 138 = .ok (.aload_n 0, 1) := by decide +kernel
theorem d_LB_write_139 : decode b_LB_write 139 = .ok (.getfield 31, 3) := by decide +kernel
theorem d_LB_write_142 : decode b_LB_write 142 = .ok (.invokevirtual 174, 3) := by decide +kernel
theorem d_LB_write_145 : decode b_LB_write 145 = .ok (.ireturn, 1) := by decide +kernel
theorem d_LB_enough_0 : decode b_LB_enough 0 = .ok (.aload_n 0, 1) := by decide +kernel
theorem d_LB_enough_1 : decode b_LB_enough 1 = .ok (.getfield 81, 3) := by decide +kernel
theorem d_LB_enough_4 : decode b_LB_enough 4 = .ok (.ifCond .ne 13, 3) := by decide +kernel
theorem d_LB_enough_7 : decode b_LB_enough 7 = .ok (.new 95, 3) := by decide +kernel
theorem d_LB_enough_10 : decode b_LB_enough 10 = .ok (.dup, 1) := by decide +kernel
theorem d_LB_enough_11 : decode b_LB_enough 11 = .ok (.ldc 155, 2) := by decide +kernel
theorem d_LB_enough_13 : decode b_LB_enough 13 = .ok (.invokespecial 99, 3) := by decide +kernel
theorem d_LB_enough_16 : decode b_LB_enough 16 = .ok (.athrow, 1) := by decide +kernel
theorem d_LB_enough_17 : decode b_LB_enough 17 = .ok (.aload_n 0, 1) := by decide +kernel
theorem d_LB_enough_18 : decode b_LB_enough 18 = .ok (.getfield 147, 3) := by decide +kernel
theorem d_LB_enough_21 : decode b_LB_enough 21 = .ok (.ifCond .eq 13, 3) := by decide +kernel
theorem d_LB_enough_24 : decode b_LB_enough 24 = .ok (.aload_n 0, 1) := by decide +kernel
theorem d_LB_enough_25 : decode b_LB_enough 25 = .ok (.getfield 31, 3) := by decide +kernel
theorem d_LB_enough_28 : decode b_LB_enough 28 = .ok (.invokevirtual 174, 3) := by decide +kernel
theorem d_LB_enough_31 : decode b_LB_enough 31 = .ok (.goto 12, 3) := by decide +kernel
theorem d_LB_enough_34 : decode b_LB_enough 34 = .ok (.aload_n 0, 1) := by decide +kernel
theorem d_LB_enough_35 : decode b_LB_enough 35 = .ok (.getfield 31, 3) := by decide +kernel
theorem d_LB_enough_38 : decode b_LB_enough 38 = .ok (.invokevirtual 174, 3) := by decide +kernel
theorem d_LB_enough_41 : decode b_LB_enough 41 = .ok (.iconst 5, 1) := by decide +kernel
theorem d_LB_enough_42 : decode b_LB_enough 42 = .ok (.iadd, 1) := by decide +kernel
theorem d_LB_enough_43 : decode b_LB_enough 43 = .ok (.ireturn, 1) := by decide +kernel
theorem d_LB_close_0 : decode b_LB_close 0 = .ok (.aload_n 0, 1) := by decide +kernel
theorem d_LB_close_1 : decode b_LB_close 1 = .ok (.getfield 81, 3) := by decide +kernel
theorem d_LB_close_4 : decode b_LB_close 4 = .ok (.ifCond .ne 13, 3) := by decide +kernel
theorem d_LB_close_7 : decode b_LB_close 7 = .ok (.new 95, 3) := by decide +kernel
theorem d_LB_close_10 : decode b_LB_close 10 = .ok (.dup, 1) := by decide +kernel
theorem d_LB_close_11 : decode b_LB_close 11 = .ok (.ldc 155, 2) := by decide +kernel
theorem d_LB_close_13 : decode b_LB_close 13 = .ok (.invokespecial 99, 3) := by decide +kernel
theorem d_LB_close_16 : decode b_LB_close 16 = .ok (.athrow, 1) := by decide +kernel
theorem d_LB_close_17 : decode b_LB_close 17 = .ok (.iload_n 1, 1) := by decide +kernel
theorem d_LB_close_18 : decode b_LB_close 18 = .ok (.ifCond .eq 18, 3) := by decide +kernel
theorem d_LB_close_21 : decode b_LB_close 21 = .ok (.iload_n 1, 1) := by decide +kernel
theorem d_LB_close_22 : decode b_LB_close 22 = .ok (.iconst 1, 1) := by decide +kernel
theorem d_LB_close_23 : decode b_LB_close 23 = .ok (.if_icmp .eq 13, 3) := by decide +kernel
theorem d_LB_close_26 : decode b_LB_close 26 = .ok (.new 88, 3) := by decide +kernel
theorem d_LB_close_29 : decode b_LB_close 29 = .ok (.dup, 1) := by decide +kernel
theorem d_LB_close_30 : decode b_LB_close 30 = .ok (.ldc 177, 2) := by decide +kernel
theorem d_LB_close_32 : decode b_LB_close 32 = .ok (.invokespecial 92, 3) := by decide +kernel
theorem d_LB_close_35 : decode b_LB_close 35 = .ok (.athrow, 1) := by decide +kernel
theorem d_LB_close_36 : decode b_LB_close 36 = .ok (.aload_n 0, 1) := by decide +kernel
theorem d_LB_close_37 : decode b_LB_close 37 = .ok (.getfield 147, 3) := by decide +kernel
theorem d_LB_close_40 : decode b_LB_close 40 = .ok (.ifCond .eq 13, 3) := by decide +kernel
theorem d_LB_close_43 : decode b_LB_close 43 = .ok (.aload_n 0, 1) := by decide +kernel
theorem d_LB_close_44 : decode b_LB_close 44 = .ok (.getfield 49, 3) := by decide +kernel
theorem d_LB_close_47 : decode b_LB_close 47 = .ok (.invokevirtual 179, 3) := by decide +kernel
theorem d_LB_close_50 : decode b_LB_close 50 = .ok (.goto 24, 3) := by decide +kernel
theorem d_LB_close_53 : decode b_LB_close 53 = .ok (.iload_n 1, 1) := by decide +kernel
theorem d_LB_close_54 : decode b_LB_close 54 = .ok (.ifCond .ne 13, 3) := by decide +kernel
theorem d_LB_close_57 : decode b_LB_close 57 = .ok (.aload_n 0, 1) := by decide +kernel
theorem d_LB_close_58 : decode b_LB_close 58 = .ok (.getfield 40, 3) := by decide +kernel
theorem d_LB_close_61 : decode b_LB_close 61 = .ok (.invokevirtual 182, 3) := by decide +kernel
theorem d_LB_close_64 : decode b_LB_close 64 = .ok (.goto 10, 3) := by decide +kernel
theorem d_LB_close_67 : decode b_LB_close 67 = .ok (.aload_n 0, 1) := by decide +kernel
theorem d_LB_close_68 : decode b_LB_close 68 = .ok (.getfield 40, 3) := by decide +kernel
theorem d_LB_close_71 : decode b_LB_close 71 = .ok (.invokevirtual 185, 3) := by decide +kernel
theorem d_LB_close_74 : decode b_LB_close 74 = .ok (.aload_n 0, 1) := by decide +kernel
theorem d_LB_close_75 : decode b_LB_close 75 = .ok (.getfield 31, 3) := by decide +kernel
theorem d_LB_close_78 : decode b_LB_close 78 = .ok (.invokevirtual 188, 3) := by decide +kernel
theorem d_LB_close_81 : decode b_LB_close 81 = .ok (.aload_n 0, 1) := by decide +kernel
theorem d_LB_close_82 : decode b_LB_close 82 = .ok (.iconst 0, 1) := by decide +kernel
theorem d_LB_close_83 : decode b_LB_close 83 = .ok (.putfield 81, 3) := by decide +kernel
theorem d_LB_close_86 : decode b_LB_close 86 = .ok (.aload_n 0, 1) := by decide +kernel
theorem d_LB_close_87 : decode b_LB_close 87 = .ok (.getfield 31, 3) := by decide +kernel
theorem d_LB_close_90 : decode b_LB_close 90 = .ok (.invokevirtual 174, 3) := by decide +kernel
theorem d_LB_close_93 : decode b_LB_close 93 = .ok (.ireturn, 1) := by decide +kernel
theorem d_LB_read_0 : decode b_LB_read 0 = .ok (.aload_n 0, 1) := by decide +kernel
theorem d_LB_read_1 : decode b_LB_read 1 = .ok (.getfield 81, 3) := by decide +kernel
theorem d_LB_read_4 : decode b_LB_read 4 = .ok (.ifCond .eq 13, 3) := by decide +kernel
theorem d_LB_read_7 : decode b_LB_read 7 = .ok (.new 95, 3) := by decide +kernel
theorem d_LB_read_10 : decode b_LB_read 10 = .ok (.dup, 1) := by decide +kernel
theorem d_LB_read_11 : decode b_LB_read 11 = .ok (.ldc 97, 2) := by decide +kernel
theorem d_LB_read_13 : decode b_LB_read 13 = .ok (.invokespecial 99, 3) := by decide +kernel
theorem d_LB_read_16 : decode b_LB_read 16 = .ok (.athrow, 1) := by decide +kernel
theorem d_LB_read_17 : decode b_LB_read 17 = .ok (.iload_n 2, 1) := by decide +kernel
theorem d_LB_read_18 : decode b_LB_read 18 = .ok (.ifCond .lt 31, 3) := by decide +kernel
theorem d_LB_read_21 : decode b_LB_read 21 = .ok (.iload_n 2, 1) := by decide +kernel
theorem d_LB_read_22 : decode b_LB_read 22 = .ok (.aload_n 0, 1) := by decide +kernel
theorem d_LB_read_23 : decode b_LB_read 23 = .ok (.getfield 10, 3) := by decide +kernel
theorem d_LB_read_26 : decode b_LB_read 26 = .ok (.invokevirtual 100, 3) := by decide +kernel
theorem d_LB_read_29 : decode b_LB_read 29 = .ok (.if_icmp .gt 20, 3) := by decide +kernel
theorem d_LB_read_32 : decode b_LB_read 32 = .ok (.iload_n 3, 1) := by decide +kernel
theorem d_LB_read_33 : decode b_LB_read 33 = .ok (.ifCond .lt 16, 3) := by decide +kernel
theorem d_LB_read_36 : decode b_LB_read 36 = .ok (.iload_n 3, 1) := by decide +kernel
theorem d_LB_read_37 : decode b_LB_read 37 = .ok (.aload_n 0, 1) := by decide +kernel
theorem d_LB_read_38 : decode b_LB_read 38 = .ok (.getfield 10, 3) := by decide +kernel
theorem d_LB_read_41 : decode b_LB_read 41 = .ok (.invokevirtual 100, 3) := by decide +kernel
theorem d_LB_read_44 : decode b_LB_read 44 = .ok (.iload_n 2, 1) := by decide +kernel
theorem d_LB_read_45 : decode b_LB_read 45 = .ok (.isub, 1) := by decide +kernel
theorem d_LB_read_46 : decode b_LB_read 46 = .ok (.if_icmp .le 13, 3) := by decide +kernel
theorem d_LB_read_49 : decode b_LB_read 49 = .ok (.new 88, 3) := by decide +kernel
theorem d_LB_read_52 : decode b_LB_read 52 = .ok (.dup, 1) := by decide +kernel
theorem d_LB_read_53 : decode b_LB_read 53 = .ok (.ldc 191, 2) := by decide +kernel
theorem d_LB_read_55 : decode b_LB_read 55 = .ok (.invokespecial 92, 3) := by decide +kernel
theorem d_LB_read_58 : decode b_LB_read 58 = .ok (.athrow, 1) := by decide +kernel
theorem d_LB_read_59 : decode b_LB_read 59 = .ok (.aload_n 0, 1) := by decide +kernel
theorem d_LB_read_60 : decode b_LB_read 60 = .ok (.iconst 1, 1) := by decide +kernel
theorem d_LB_read_61 : decode b_LB_read 61 = .ok (.putfield 85, 3) := by decide +kernel
theorem d_LB_read_64 : decode b_LB_read 64 = .ok (.aload_n 0, 1) := by decide +kernel
theorem d_LB_read_65 : decode b_LB_read 65 = .ok (.iload_n 1, 1) := by decide +kernel
theorem d_LB_read_66 : decode b_LB_read 66 = .ok (.putfield 193, 3) := by decide +kernel
theorem d_LB_read_69 : decode b_LB_read 69 = .ok (.aload_n 0, 1) := by decide +kernel
theorem d_LB_read_70 : decode b_LB_read 70 = .ok (.getfield 56, 3) := by decide +kernel
theorem d_LB_read_73 : decode b_LB_read 73 = .ok (.iload_n 2, 1) := by decide +kernel
theorem d_LB_read_74 : decode b_LB_read 74 = .ok (.iload_n 3, 1) := by decide +kernel
theorem d_LB_read_75 : decode b_LB_read 75 = .ok (.invokevirtual 196, 3) := by decide +kernel
theorem d_LB_read_78 : decode b_LB_read 78 = .ok (.iload_n 1, 1) := by decide +kernel
theorem d_LB_read_79 : decode b_LB_read 79 = .ok (.ifCond .eq 13, 3) := by decide +kernel
theorem d_LB_read_82 : decode b_LB_read 82 = .ok (.aload_n 0, 1) := by decide +kernel
theorem d_LB_read_83 : decode b_LB_read 83 = .ok (.getfield 74, 3) := by decide +kernel
theorem d_LB_read_86 : decode b_LB_read 86 = .ok (.invokevirtual 198, 3) := by decide +kernel
theorem d_LB_read_89 : decode b_LB_read 89 = .ok (.goto 10, 3) := by decide +kernel
theorem d_LB_read_92 : decode b_LB_read 92 = .ok (.aload_n 0, 1) := by decide +kernel
theorem d_LB_read_93 : decode b_LB_read 93 = .ok (.getfield 65, 3) := by decide +kernel
theorem d_LB_read_96 : decode b_LB_read 96 = .ok (.invokevirtual 199, 3) := by decide +kernel
theorem d_LB_read_99 : decode b_LB_read 99 = .ok (.return_, 1) := by decide +kernel
theorem d_LB_bits_0 : decode b_LB_bits 0 = .ok (.aload_n 0, 1) := by decide +kernel
theorem d_LB_bits_1 : decode b_LB_bits 1 = .ok (.getfield 85, 3) := by decide +kernel
theorem d_LB_bits_4 : decode b_LB_bits 4 = .ok (.ifCond .ne 13, 3) := by decide +kernel
theorem d_LB_bits_7 : decode b_LB_bits 7 = .ok (.new 95, 3) := by decide +kernel
theorem d_LB_bits_10 : decode b_LB_bits 10 = .ok (.dup, 1) := by decide +kernel
theorem d_LB_bits_11 : decode b_LB_bits 11 = .ok (.ldc 200, 2) := by decide +kernel
theorem d_LB_bits_13 : decode b_LB_bits 13 = .ok (.invokespecial 99, 3) := by decide +kernel
theorem d_LB_bits_16 : decode b_LB_bits 16 = .ok (.athrow, 1) := by decide +kernel
theorem d_LB_bits_17 : decode b_LB_bits 17 = .ok (.iload_n 1, 1) := by decide +kernel
theorem d_LB_bits_18 : decode b_LB_bits 18 = .ok (.aload_n 0, 1) := by decide +kernel
theorem d_LB_bits_19 : decode b_LB_bits 19 = .ok (.getfield 193, 3) := by decide +kernel
theorem d_LB_bits_22 : decode b_LB_bits 22 = .ok (.invokestatic 157, 3) := by decide +kernel
theorem d_LB_bits_25 : decode b_LB_bits 25 = .ok (.ifCond .ne 13, 3) := by decide +kernel
theorem d_LB_bits_28 : decode b_LB_bits 28 = .ok (.new 88, 3) := by decide +kernel
theorem d_LB_bits_31 : decode b_LB_bits 31 = .ok (.dup, 1) := by decide +kernel
theorem d_LB_bits_32 : decode b_LB_bits 32 = .ok (.ldc 161, 2) := by decide +kernel
theorem d_LB_bits_34 : decode b_LB_bits 34 = .ok (.invokespecial 92, 3) := by decide +kernel
theorem d_LB_bits_37 : decode b_LB_bits 37 = .ok (.athrow, 1) := by decide +kernel
theorem d_LB_bits_38 : decode b_LB_bits 38 = .ok (.iload_n 2, 1) := by decide +kernel
theorem d_LB_bits_39 : decode b_LB_bits 39 = .ok (.iconst 1, 1) := by decide +kernel
theorem d_LB_bits_40 : decode b_LB_bits 40 = .ok (.if_icmp .lt 9, 3) := by decide +kernel
theorem d_LB_bits_43 : decode b_LB_bits 43 = .ok (.iload_n 2, 1) := by decide +kernel
theorem d_LB_bits_44 : decode b_LB_bits 44 = .ok (.bipush 64, 2) := by decide +kernel
theorem d_LB_bits_46 : decode b_LB_bits 46 = .ok (.if_icmp .le 13, 3) := by decide +kernel
theorem d_LB_bits_49 : decode b_LB_bits 49 = .ok (.new 88, 3) := by decide +kernel
theorem d_LB_bits_52 : decode b_LB_bits 52 = .ok (.dup, 1) := by decide +kernel
theorem d_LB_bits_53 : decode b_LB_bits 53 = .ok (.ldc 163, 2) := by decide +kernel
theorem d_LB_bits_55 : decode b_LB_bits 55 = .ok (.invokespecial 92, 3) := by decide +kernel
theorem d_LB_bits_58 : decode b_LB_bits 58 = .ok (.athrow, 1) := by decide +kernel
theorem d_LB_bits_59 : decode b_LB_bits 59 = .ok (.lconst 0, 1) := by decide +kernel
theorem d_LB_bits_60 : decode b_LB_bits 60 = .ok (.lstore_n 3, 1) := by decide +kernel
theorem d_LB_bits_61 : decode b_LB_bits 61 = .ok (.iconst 0, 1) := by decide +kernel
theorem d_LB_bits_62 : decode b_LB_bits 62 = .ok (.istore 5, 2) := by decide +kernel
theorem d_LB_bits_64 : decode b_LB_bits 64 = .ok (.iload 5, 2) := by decide +kernel
theorem d_LB_bits_66 : decode b_LB_bits 66 = .ok (.iload_n 2, 1) := by decide +kernel
theorem d_LB_bits_67 : decode b_LB_bits 67 = .ok (.if_icmp .ge 44, 3) := by decide +kernel
theorem d_LB_bits_70 : decode b_LB_bits 70 = .ok (.aload_n 0, 1) := by decide +kernel
theorem d_LB_bits_71 : decode b_LB_bits 71 = .ok (.getfield 193, 3) := by decide +kernel
theorem d_LB_bits_74 : decode b_LB_bits 74 = .ok (.ifCond .eq 13, 3) := by decide +kernel
theorem d_LB_bits_77 : decode b_LB_bits 77 = .ok (.aload_n 0, 1) := by decide +kernel
theorem d_LB_bits_78 : decode b_LB_bits 78 = .ok (.getfield 74, 3) := by decide +kernel
theorem d_LB_bits_81 : decode b_LB_bits 81 = .ok (.invokevirtual 202, 3) := by decide +kernel
theorem d_LB_bits_84 : decode b_LB_bits 84 = .ok (.goto 11, 3) := by decide +kernel
theorem d_LB_bits_87 : decode b_LB_bits 87 = .ok (.aload_n 0, 1) := by decide +kernel
theorem d_LB_bits_88 : decode b_LB_bits 88 = .ok (.getfield 65, 3) := by decide +kernel
theorem d_LB_bits_91 : decode b_LB_bits 91 = .ok (.iload_n 1, 1) := by decide +kernel
theorem d_LB_bits_92 : decode b_LB_bits 92 = .ok (.invokevirtual 205, 3) := by decide +kernel
theorem d_LB_bits_95 : decode b_LB_bits 95 = .ok (.istore 6, 2) := by decide +kernel
theorem d_LB_bits_97 : decode b_LB_bits 97 = .ok (.lload_n 3, 1) := by decide +kernel
theorem d_LB_bits_98 : decode b_LB_bits 98 = .ok (.iconst 1, 1) := by decide +kernel
theorem d_LB_bits_99 : decode b_LB_bits 99 = .ok (.lshl, 1) := by decide +kernel
theorem d_LB_bits_100 : decode b_LB_bits 100 = .ok (.iload 6, 2) := by decide +kernel
theorem d_LB_bits_102 : decode b_LB_bits 102 = .ok (.i2l, 1) := by decide +kernel
theorem d_LB_bits_103 : decode b_LB_bits 103 = .ok (.lor, 1) := by decide +kernel
theorem d_LB_bits_104 : decode b_LB_bits 104 = .ok (.lstore_n 3, 1) := by decide +kernel
theorem d_LB_bits_105 : decode b_LB_bits 105 = .ok (.iinc 5 1, 3) := by decide +kernel
theorem d_LB_bits_108 : decode b_LB_bits 108 = .ok (.goto (-44), 3) := by decide +kernel
theorem d_LB_bits_111 : decode b_LB_bits 111 = .ok (.lload_n 3, 1) := by decide +kernel
theorem d_LB_bits_112 : decode b_LB_bits 112 = .ok (.lreturn, 1) := by decide +kernel
theorem d_LB_register_0 : decode b_LB_register 0 = .ok (.iload_n 1, 1) := by decide +kernel
theorem d_LB_register_1 : decode b_LB_register 1 = .ok (.tableswitch 148 0 4 #[35, 61, 87, 103, 122], 35) := by decide +kernel
theorem d_LB_register_36 : decode b_LB_register 36 = .ok (.aload_n 0, 1) := by decide +kernel
theorem d_LB_register_37 : decode b_LB_register 37 = .ok (.getfield 81, 3) := by decide +kernel
theorem d_LB_register_40 : decode b_LB_register 40 = .ok (.ifCond .eq 20, 3) := by decide +kernel
theorem d_LB_register_43 : decode b_LB_register 43 = .ok (.aload_n 0, 1) := by decide +kernel
theorem d_LB_register_44 : decode b_LB_register 44 = .ok (.getfield 147, 3) := by decide +kernel
theorem d_LB_register_47 : decode b_LB_register 47 = .ok (.ifCond .ne 13, 3) := by decide +kernel
theorem d_LB_register_50 : decode b_LB_register 50 = .ok (.aload_n 0, 1) := by decide +kernel
theorem d_LB_register_51 : decode b_LB_register 51 = .ok (.getfield 40, 3) := by decide +kernel
theorem d_LB_register_54 : decode b_LB_register 54 = .ok (.getfield 207, 3) := by decide +kernel
theorem d_LB_register_57 : decode b_LB_register 57 = .ok (.goto 4, 3) := by decide +kernel
theorem d_LB_register_60 : decode b_LB_register 60 = .ok (.iconst (-1), 1) := by decide +kernel
theorem d_LB_register_61 : decode b_LB_register 61 = .ok (.ireturn, 1) := by decide +kernel
theorem d_LB_register_62 : decode b_LB_register 62 = .ok (.aload_n 0, 1) := by decide +kernel
theorem d_LB_register_63 : decode b_LB_register 63 = .ok (.getfield 81, 3) := by decide +kernel
theorem d_LB_register_66 : decode b_LB_register 66 = .ok (.ifCond .eq 20, 3) := by decide +kernel
theorem d_LB_register_69 : decode b_LB_register 69 = .ok (.aload_n 0, 1) := by decide +kernel
theorem d_LB_register_70 : decode b_LB_register 70 = .ok (.getfield 147, 3) := by decide +kernel
theorem d_LB_register_73 : decode b_LB_register 73 = .ok (.ifCond .ne 13, 3) := by decide +kernel
theorem d_LB_register_76 : decode b_LB_register 76 = .ok (.aload_n 0, 1) := by decide +kernel
theorem d_LB_register_77 : decode b_LB_register 77 = .ok (.getfield 40, 3) := by decide +kernel
theorem d_LB_register_80 : decode b_LB_register 80 = .ok (.getfield 211, 3) := by decide +kernel
theorem d_LB_register_83 : decode b_LB_register 83 = .ok (.goto 4, 3) := by decide +kernel
theorem d_LB_register_86 : decode b_LB_register 86 = .ok (.iconst (-1), 1) := by decide +kernel
theorem d_LB_register_87 : decode b_LB_register 87 = .ok (.ireturn, 1) := by decide +kernel
theorem d_LB_register_88 : decode b_LB_register 88 = .ok (.aload_n 0, 1) := by decide +kernel
theorem d_LB_register_89 : decode b_LB_register 89 = .ok (.getfield 81, 3) := by decide +kernel
theorem d_LB_register_92 : decode b_LB_register 92 = .ok (.ifCond .eq 10, 3) := by decide +kernel
theorem d_LB_register_95 : decode b_LB_register 95 = .ok (.aload_n 0, 1) := by decide +kernel
theorem d_LB_register_96 : decode b_LB_register 96 = .ok (.invokevirtual 214, 3) := by decide +kernel
theorem d_LB_register_99 : decode b_LB_register 99 = .ok (.goto 4, 3) := by decide +kernel
theorem d_LB_register_102 : decode b_LB_register 102 = .ok (.iconst (-1), 1) := by decide +kernel
theorem d_LB_register_103 : decode b_LB_register 103 = .ok (.ireturn, 1) := by decide +kernel
theorem d_LB_register_104 : decode b_LB_register 104 = .ok (.aload_n 0, 1) := by decide +kernel
theorem d_LB_register_105 : decode b_LB_register 105 = .ok (.getfield 85, 3) := by decide +kernel
theorem d_LB_register_108 : decode b_LB_register 108 = .ok (.ifCond .eq 13, 3) := by decide +kernel
theorem d_LB_register_111 : decode b_LB_register 111 = .ok (.aload_n 0, 1) := by decide +kernel
theorem d_LB_register_112 : decode b_LB_register 112 = .ok (.getfield 56, 3) := by decide +kernel
theorem d_LB_register_115 : decode b_LB_register 115 = .ok (.getfield 217, 3) := by decide +kernel
theorem d_LB_register_118 : decode b_LB_register 118 = .ok (.goto 4, 3) := by decide +kernel
theorem d_LB_register_121 : decode b_LB_register 121 = .ok (.iconst (-1), 1) := by decide +kernel
theorem d_LB_register_122 : decode b_LB_register 122 = .ok (.ireturn, 1) := by decide +kernel
theorem d_LB_register_123 : decode b_LB_register 123 = .ok (.aload_n 0, 1) := by decide +kernel
theorem d_LB_register_124 : decode b_LB_register 124 = .ok (.getfield 85, 3) := by decide +kernel
theorem d_LB_register_127 : decode b_LB_register 127 = .ok (.ifCond .eq 20, 3) := by decide +kernel
theorem d_LB_register_130 : decode b_LB_register 130 = .ok (.aload_n 0, 1) := by decide +kernel
theorem d_LB_register_131 : decode b_LB_register 131 = .ok (.getfield 193, 3) := by decide +kernel
theorem d_LB_register_134 : decode b_LB_register 134 = .ok (.ifCond .ne 13, 3) := by decide +kernel
theorem d_LB_register_137 : decode b_LB_register 137 = .ok (.aload_n 0, 1) := by decide +kernel
theorem d_LB_register_138 : decode b_LB_register 138 = .ok (.getfield 65, 3) := by decide +kernel
theorem d_LB_register_141 : decode b_LB_register 141 = .ok (.getfield 220, 3) := by decide +kernel
theorem d_LB_register_144 : decode b_LB_register 144 = .ok (.goto 4, 3) := by decide +kernel
theorem d_LB_register_147 : decode b_LB_register 147 = .ok (.iconst (-1), 1) := by decide +kernel
theorem d_LB_register_148 : decode b_LB_register 148 = .ok (.ireturn, 1) := by decide +kernel
theorem d_LB_register_149 : decode b_LB_register 149 = .ok (.iconst (-1), 1) := by decide +kernel
theorem d_LB_register_150 : decode b_LB_register 150 = .ok (.ireturn, 1) := by decide +kernel
theorem d_LB_roomOfSegment_0 : decode b_LB_roomOfSegment 0 = .ok (.aload_n 0, 1) := by decide +kernel
theorem d_LB_roomOfSegment_1 : decode b_LB_roomOfSegment 1 = .ok (.getfield 147, 3) := by decide +kernel
theorem d_LB_roomOfSegment_4 : decode b_LB_roomOfSegment 4 = .ok (.ifCond .eq 13, 3) := by decide +kernel
theorem d_LB_roomOfSegment_7 : decode b_LB_roomOfSegment 7 = .ok (.aload_n 0, 1) := by decide +kernel
theorem d_LB_roomOfSegment_8 : decode b_LB_roomOfSegment 8 = .ok (.getfield 49, 3) := by decide +kernel
theorem d_LB_roomOfSegment_11 : decode b_LB_roomOfSegment 11 = .ok (.getfield 221, 3) := by decide +kernel
theorem d_LB_roomOfSegment_14 : decode b_LB_roomOfSegment 14 = .ok (.goto 10, 3) := by decide +kernel
theorem d_LB_roomOfSegment_17 : decode b_LB_roomOfSegment 17 = .ok (.aload_n 0, 1) := by decide +kernel
theorem d_LB_roomOfSegment_18 : decode b_LB_roomOfSegment 18 = .ok (.getfield 40, 3) := by decide +kernel
theorem d_LB_roomOfSegment_21 : decode b_LB_roomOfSegment 21 = .ok (.getfield 224, 3) := by decide +kernel
theorem d_LB_roomOfSegment_24 : decode b_LB_roomOfSegment 24 = .ok (.ireturn, 1) := by decide +kernel
theorem d_LB_contextsOf_0 : decode b_LB_contextsOf 0 = .ok (.iload_n 1, 1) := by decide +kernel
theorem d_LB_contextsOf_1 : decode b_LB_contextsOf 1 = .ok (.ifCond .eq 10, 3) := by decide +kernel
theorem d_LB_contextsOf_4 : decode b_LB_contextsOf 4 = .ok (.aload_n 0, 1) := by decide +kernel
theorem d_LB_contextsOf_5 : decode b_LB_contextsOf 5 = .ok (.getfield 23, 3) := by decide +kernel
theorem d_LB_contextsOf_8 : decode b_LB_contextsOf 8 = .ok (.goto 7, 3) := by decide +kernel
theorem d_LB_contextsOf_11 : decode b_LB_contextsOf 11 = .ok (.aload_n 0, 1) := by decide +kernel
theorem d_LB_contextsOf_12 : decode b_LB_contextsOf 12 = .ok (.getfield 19, 3) := by decide +kernel
theorem d_LB_contextsOf_15 : decode b_LB_contextsOf 15 = .ok (.areturn, 1) := by decide +kernel
theorem d_LB_isContext_0 : decode b_LB_isContext 0 = .ok (.iload_n 0, 1) := by decide +kernel
theorem d_LB_isContext_1 : decode b_LB_isContext 1 = .ok (.ifCond .lt 13, 3) := by decide +kernel
theorem d_LB_isContext_4 : decode b_LB_isContext 4 = .ok (.iload_n 0, 1) := by decide +kernel
theorem d_LB_isContext_5 : decode b_LB_isContext 5 = .ok (.bipush 19, 2) := by decide +kernel
theorem d_LB_isContext_7 : decode b_LB_isContext 7 = .ok (.if_icmp .ge 7, 3) := by decide +kernel
theorem d_LB_isContext_10 : decode b_LB_isContext 10 = .ok (.iconst 1, 1) := by decide +kernel
theorem d_LB_isContext_11 : decode b_LB_isContext 11 = .ok (.goto 4, 3) := by decide +kernel
theorem d_LB_isContext_14 : decode b_LB_isContext 14 = .ok (.iconst 0, 1) := by decide +kernel
theorem d_LB_isContext_15 : decode b_LB_isContext 15 = .ok (.ireturn, 1) := by decide +kernel
theorem d_LB_fits_0 : decode b_LB_fits 0 = .ok (.iload_n 1, 1) := by decide +kernel
theorem d_LB_fits_1 : decode b_LB_fits 1 = .ok (.ifCond .eq 16, 3) := by decide +kernel
theorem d_LB_fits_4 : decode b_LB_fits 4 = .ok (.iload_n 0, 1) := by decide +kernel
theorem d_LB_fits_5 : decode b_LB_fits 5 = .ok (.iconst (-1), 1) := by decide +kernel
theorem d_LB_fits_6 : decode b_LB_fits 6 = .ok (.if_icmp .ne 7, 3) := by decide +kernel
theorem d_LB_fits_9 : decode b_LB_fits 9 = .ok (.iconst 1, 1) := by decide +kernel
theorem d_LB_fits_10 : decode b_LB_fits 10 = .ok (.goto 11, 3) := by decide +kernel
theorem d_LB_fits_13 : decode b_LB_fits 13 = .ok (.iconst 0, 1) := by decide +kernel
theorem d_LB_fits_14 : decode b_LB_fits 14 = .ok (.goto 7, 3) := by decide +kernel
theorem d_LB_fits_17 : decode b_LB_fits 17 = .ok (.iload_n 0, 1) := by decide +kernel
end
section
theorem d_LB_fits_18 : decode b_LB_fits 18 = .ok (.invokestatic 123, 3) := by decide +kernel
theorem d_LB_fits_21 : decode b_LB_fits 21 = .ok (.ireturn, 1) := by decide +kernel
theorem d_Mdl_init_0 : decode b_Mdl_init 0 = .ok (.aload_n 0, 1) := by decide +kernel
theorem d_Mdl_init_1 : decode b_Mdl_init 1 = .ok (.invokespecial 1, 3) := by decide +kernel
theorem d_Mdl_init_4 : decode b_Mdl_init 4 = .ok (.aload_n 0, 1) := by decide +kernel
theorem d_Mdl_init_5 : decode b_Mdl_init 5 = .ok (.bipush 47, 2) := by decide +kernel
theorem d_Mdl_init_7 : decode b_Mdl_init 7 = .ok (.newarray .int, 2) := by decide +kernel
theorem d_Mdl_init_9 : decode b_Mdl_init 9 = .ok (.dup, 1) := by decide +kernel
theorem d_Mdl_init_10 : decode b_Mdl_init 10 = .ok (.iconst 0, 1) := by decide +kernel
theorem d_Mdl_init_11 : decode b_Mdl_init 11 = .ok (.sipush 22017, 3) := by decide +kernel
theorem d_Mdl_init_14 : decode b_Mdl_init 14 = .ok (.iastore, 1) := by decide +kernel
theorem d_Mdl_init_15 : decode b_Mdl_init 15 = .ok (.dup, 1) := by decide +kernel
theorem d_Mdl_init_16 : decode b_Mdl_init 16 = .ok (.iconst 1, 1) := by decide +kernel
theorem d_Mdl_init_17 : decode b_Mdl_init 17 = .ok (.sipush 13313, 3) := by decide +kernel
theorem d_Mdl_init_20 : decode b_Mdl_init 20 = .ok (.iastore, 1) := by decide +kernel
theorem d_Mdl_init_21 : decode b_Mdl_init 21 = .ok (.dup, 1) := by decide +kernel
theorem d_Mdl_init_22 : decode b_Mdl_init 22 = .ok (.iconst 2, 1) := by decide +kernel
theorem d_Mdl_init_23 : decode b_Mdl_init 23 = .ok (.sipush 6145, 3) := by decide +kernel
theorem d_Mdl_init_26 : decode b_Mdl_init 26 = .ok (.iastore, 1) := by decide +kernel
theorem d_Mdl_init_27 : decode b_Mdl_init 27 = .ok (.dup, 1) := by decide +kernel
theorem d_Mdl_init_28 : decode b_Mdl_init 28 = .ok (.iconst 3, 1) := by decide +kernel
theorem d_Mdl_init_29 : decode b_Mdl_init 29 = .ok (.sipush 2753, 3) := by decide +kernel
theorem d_Mdl_init_32 : decode b_Mdl_init 32 = .ok (.iastore, 1) := by decide +kernel
theorem d_Mdl_init_33 : decode b_Mdl_init 33 = .ok (.dup, 1) := by decide +kernel
theorem d_Mdl_init_34 : decode b_Mdl_init 34 = .ok (.iconst 4, 1) := by decide +kernel
theorem d_Mdl_init_35 : decode b_Mdl_init 35 = .ok (.sipush 1313, 3) := by decide +kernel
theorem d_Mdl_init_38 : decode b_Mdl_init 38 = .ok (.iastore, 1) := by decide +kernel
theorem d_Mdl_init_39 : decode b_Mdl_init 39 = .ok (.dup, 1) := by decide +kernel
theorem d_Mdl_init_40 : decode b_Mdl_init 40 = .ok (.iconst 5, 1) := by decide +kernel
theorem d_Mdl_init_41 : decode b_Mdl_init 41 = .ok (.sipush 545, 3) := by decide +kernel
theorem d_Mdl_init_44 : decode b_Mdl_init 44 = .ok (.iastore, 1) := by decide +kernel
theorem d_Mdl_init_45 : decode b_Mdl_init 45 = .ok (.dup, 1) := by decide +kernel
theorem d_Mdl_init_46 : decode b_Mdl_init 46 = .ok (.bipush 6, 2) := by decide +kernel
theorem d_Mdl_init_48 : decode b_Mdl_init 48 = .ok (.sipush 22017, 3) := by decide +kernel
theorem d_Mdl_init_51 : decode b_Mdl_init 51 = .ok (.iastore, 1) := by decide +kernel
theorem d_Mdl_init_52 : decode b_Mdl_init 52 = .ok (.dup, 1) := by decide +kernel
theorem d_Mdl_init_53 : decode b_Mdl_init 53 = .ok (.bipush 7, 2) := by decide +kernel
theorem d_Mdl_init_55 : decode b_Mdl_init 55 = .ok (.sipush 21505, 3) := by decide +kernel
theorem d_Mdl_init_58 : decode b_Mdl_init 58 = .ok (.iastore, 1) := by decide +kernel
theorem d_Mdl_init_59 : decode b_Mdl_init 59 = .ok (.dup, 1) := by decide +kernel
theorem d_Mdl_init_60 : decode b_Mdl_init 60 = .ok (.bipush 8, 2) := by decide +kernel
theorem d_Mdl_init_62 : decode b_Mdl_init 62 = .ok (.sipush 18433, 3) := by decide +kernel
theorem d_Mdl_init_65 : decode b_Mdl_init 65 = .ok (.iastore, 1) := by decide +kernel
theorem d_Mdl_init_66 : decode b_Mdl_init 66 = .ok (.dup, 1) := by decide +kernel
theorem d_Mdl_init_67 : decode b_Mdl_init 67 = .ok (.bipush 9, 2) := by decide +kernel
theorem d_Mdl_init_69 : decode b_Mdl_init 69 = .ok (.sipush 14337, 3) := by decide +kernel
theorem d_Mdl_init_72 : decode b_Mdl_init 72 = .ok (.iastore, 1) := by decide +kernel
theorem d_Mdl_init_73 : decode b_Mdl_init 73 = .ok (.dup, 1) := by decide +kernel
theorem d_Mdl_init_74 : decode b_Mdl_init 74 = .ok (.bipush 10, 2) := by decide +kernel
theorem d_Mdl_init_76 : decode b_Mdl_init 76 = .ok (.sipush 12289, 3) := by decide +kernel
theorem d_Mdl_init_79 : decode b_Mdl_init 79 = .ok (.iastore, 1) := by decide +kernel
theorem d_Mdl_init_80 : decode b_Mdl_init 80 = .ok (.dup, 1) := by decide +kernel
theorem d_Mdl_init_81 : decode b_Mdl_init 81 = .ok (.bipush 11, 2) := by decide +kernel
theorem d_Mdl_init_83 : decode b_Mdl_init 83 = .ok (.sipush 9217, 3) := by decide +kernel
theorem d_Mdl_init_86 : decode b_Mdl_init 86 = .ok (.iastore, 1) := by decide +kernel
theorem d_Mdl_init_87 : decode b_Mdl_init 87 = .ok (.dup, 1) := by decide +kernel
theorem d_Mdl_init_88 : decode b_Mdl_init 88 = .ok (.bipush 12, 2) := by decide +kernel
theorem d_Mdl_init_90 : decode b_Mdl_init 90 = .ok (.sipush 7169, 3) := by decide +kernel
theorem d_Mdl_init_93 : decode b_Mdl_init 93 = .ok (.iastore, 1) := by decide +kernel
theorem d_Mdl_init_94 : decode b_Mdl_init 94 = .ok (.dup, 1) := by decide +kernel
theorem d_Mdl_init_95 : decode b_Mdl_init 95 = .ok (.bipush 13, 2) := by decide +kernel
theorem d_Mdl_init_97 : decode b_Mdl_init 97 = .ok (.sipush 5633, 3) := by decide +kernel
theorem d_Mdl_init_100 : decode b_Mdl_init 100 = .ok (.iastore, 1) := by decide +kernel
theorem d_Mdl_init_101 : decode b_Mdl_init 101 = .ok (.dup, 1) := by decide +kernel
theorem d_Mdl_init_102 : decode b_Mdl_init 102 = .ok (.bipush 14, 2) := by decide +kernel
theorem d_Mdl_init_104 : decode b_Mdl_init 104 = .ok (.sipush 22017, 3) := by decide +kernel
theorem d_Mdl_init_107 : decode b_Mdl_init 107 = .ok (.iastore, 1) := by decide +kernel
theorem d_Mdl_init_108 : decode b_Mdl_init 108 = .ok (.dup, 1) := by decide +kernel
theorem d_Mdl_init_109 : decode b_Mdl_init 109 = .ok (.bipush 15, 2) := by decide +kernel
theorem d_Mdl_init_111 : decode b_Mdl_init 111 = .ok (.sipush 21505, 3) := by decide +kernel
theorem d_Mdl_init_114 : decode b_Mdl_init 114 = .ok (.iastore, 1) := by decide +kernel
theorem d_Mdl_init_115 : decode b_Mdl_init 115 = .ok (.dup, 1) := by decide +kernel
theorem d_Mdl_init_116 : decode b_Mdl_init 116 = .ok (.bipush 16, 2) := by decide +kernel
theorem d_Mdl_init_118 : decode b_Mdl_init 118 = .ok (.sipush 20737, 3) := by decide +kernel
theorem d_Mdl_init_121 : decode b_Mdl_init 121 = .ok (.iastore, 1) := by decide +kernel
theorem d_Mdl_init_122 : decode b_Mdl_init 122 = .ok (.dup, 1) := by decide +kernel
theorem d_Mdl_init_123 : decode b_Mdl_init 123 = .ok (.bipush 17, 2) := by decide +kernel
theorem d_Mdl_init_125 : decode b_Mdl_init 125 = .ok (.sipush 18433, 3) := by decide +kernel
theorem d_Mdl_init_128 : decode b_Mdl_init 128 = .ok (.iastore, 1) := by decide +kernel
theorem d_Mdl_init_129 : decode b_Mdl_init 129 = .ok (.dup, 1) := by decide +kernel
theorem d_Mdl_init_130 : decode b_Mdl_init 130 = .ok (.bipush 18, 2) := by decide +kernel
theorem d_Mdl_init_132 : decode b_Mdl_init 132 = .ok (.sipush 14337, 3) := by decide +kernel
theorem d_Mdl_init_135 : decode b_Mdl_init 135 = .ok (.iastore, 1) := by decide +kernel
theorem d_Mdl_init_136 : decode b_Mdl_init 136 = .ok (.dup, 1) := by decide +kernel
theorem d_Mdl_init_137 : decode b_Mdl_init 137 = .ok (.bipush 19, 2) := by decide +kernel
theorem d_Mdl_init_139 : decode b_Mdl_init 139 = .ok (.sipush 13313, 3) := by decide +kernel
theorem d_Mdl_init_142 : decode b_Mdl_init 142 = .ok (.iastore, 1) := by decide +kernel
theorem d_Mdl_init_143 : decode b_Mdl_init 143 = .ok (.dup, 1) := by decide +kernel
theorem d_Mdl_init_144 : decode b_Mdl_init 144 = .ok (.bipush 20, 2) := by decide +kernel
theorem d_Mdl_init_146 : decode b_Mdl_init 146 = .ok (.sipush 12289, 3) := by decide +kernel
theorem d_Mdl_init_149 : decode b_Mdl_init 149 = .ok (.iastore, 1) := by decide +kernel
theorem d_Mdl_init_150 : decode b_Mdl_init 150 = .ok (.dup, 1) := by decide +kernel
theorem d_Mdl_init_151 : decode b_Mdl_init 151 = .ok (.bipush 21, 2) := by decide +kernel
theorem d_Mdl_init_153 : decode b_Mdl_init 153 = .ok (.sipush 10241, 3) := by decide +kernel
theorem d_Mdl_init_156 : decode b_Mdl_init 156 = .ok (.iastore, 1) := by decide +kernel
theorem d_Mdl_init_157 : decode b_Mdl_init 157 = .ok (.dup, 1) := by decide +kernel
theorem d_Mdl_init_158 : decode b_Mdl_init 158 = .ok (.bipush 22, 2) := by decide +kernel
theorem d_Mdl_init_160 : decode b_Mdl_init 160 = .ok (.sipush 9217, 3) := by decide +kernel
theorem d_Mdl_init_163 : decode b_Mdl_init 163 = .ok (.iastore, 1) := by decide +kernel
theorem d_Mdl_init_164 : decode b_Mdl_init 164 = .ok (.dup, 1) := by decide +kernel
theorem d_Mdl_init_165 : decode b_Mdl_init 165 = .ok (.bipush 23, 2) := by decide +kernel
theorem d_Mdl_init_167 : decode b_Mdl_init 167 = .ok (.sipush 8705, 3) := by decide +kernel
theorem d_Mdl_init_170 : decode b_Mdl_init 170 = .ok (.iastore, 1) := by decide +kernel
theorem d_Mdl_init_171 : decode b_Mdl_init 171 = .ok (.dup, 1) := by decide +kernel
theorem d_Mdl_init_172 : decode b_Mdl_init 172 = .ok (.bipush 24, 2) := by decide +kernel
theorem d_Mdl_init_174 : decode b_Mdl_init 174 = .ok (.sipush 7169, 3) := by decide +kernel
theorem d_Mdl_init_177 : decode b_Mdl_init 177 = .ok (.iastore, 1) := by decide +kernel
theorem d_Mdl_init_178 : decode b_Mdl_init 178 = .ok (.dup, 1) := by decide +kernel
theorem d_Mdl_init_179 : decode b_Mdl_init 179 = .ok (.bipush 25, 2) := by decide +kernel
theorem d_Mdl_init_181 : decode b_Mdl_init 181 = .ok (.sipush 6145, 3) := by decide +kernel
theorem d_Mdl_init_184 : decode b_Mdl_init 184 = .ok (.iastore, 1) := by decide +kernel
theorem d_Mdl_init_185 : decode b_Mdl_init 185 = .ok (.dup, 1) := by decide +kernel
theorem d_Mdl_init_186 : decode b_Mdl_init 186 = .ok (.bipush 26, 2) := by decide +kernel
theorem d_Mdl_init_188 : decode b_Mdl_init 188 = .ok (.sipush 5633, 3) := by decide +kernel
theorem d_Mdl_init_191 : decode b_Mdl_init 191 = .ok (.iastore, 1) := by decide +kernel
theorem d_Mdl_init_192 : decode b_Mdl_init 192 = .ok (.dup, 1) := by decide +kernel
theorem d_Mdl_init_193 : decode b_Mdl_init 193 = .ok (.bipush 27, 2) := by decide +kernel
theorem d_Mdl_init_195 : decode b_Mdl_init 195 = .ok (.sipush 5121, 3) := by decide +kernel
theorem d_Mdl_init_198 : decode b_Mdl_init 198 = .ok (.iastore, 1) := by decide +kernel
theorem d_Mdl_init_199 : decode b_Mdl_init 199 = .ok (.dup, 1) := by decide +kernel
theorem d_Mdl_init_200 : decode b_Mdl_init 200 = .ok (.bipush 28, 2) := by decide +kernel
theorem d_Mdl_init_202 : decode b_Mdl_init 202 = .ok (.sipush 4609, 3) := by decide +kernel
theorem d_Mdl_init_205 : decode b_Mdl_init 205 = .ok (.iastore, 1) := by decide +kernel
theorem d_Mdl_init_206 : decode b_Mdl_init 206 = .ok (.dup, 1) := by decide +kernel
theorem d_Mdl_init_207 : decode b_Mdl_init 207 = .ok (.bipush 29, 2) := by decide +kernel
theorem d_Mdl_init_209 : decode b_Mdl_init 209 = .ok (.sipush 4353, 3) := by decide +kernel
theorem d_Mdl_init_212 : decode b_Mdl_init 212 = .ok (.iastore, 1) := by decide +kernel
theorem d_Mdl_init_213 : decode b_Mdl_init 213 = .ok (.dup, 1) := by decide +kernel
theorem d_Mdl_init_214 : decode b_Mdl_init 214 = .ok (.bipush 30, 2) := by decide +kernel
theorem d_Mdl_init_216 : decode b_Mdl_init 216 = .ok (.sipush 2753, 3) := by decide +kernel
theorem d_Mdl_init_219 : decode b_Mdl_init 219 = .ok (.iastore, 1) := by decide +kernel
theorem d_Mdl_init_220 : decode b_Mdl_init 220 = .ok (.dup, 1) := by decide +kernel
theorem d_Mdl_init_221 : decode b_Mdl_init 221 = .ok (.bipush 31, 2) := by decide +kernel
theorem d_Mdl_init_223 : decode b_Mdl_init 223 = .ok (.sipush 2497, 3) := by decide +kernel
theorem d_Mdl_init_226 : decode b_Mdl_init 226 = .ok (.iastore, 1) := by decide +kernel
theorem d_Mdl_init_227 : decode b_Mdl_init 227 = .ok (.dup, 1) := by decide +kernel
theorem d_Mdl_init_228 : decode b_Mdl_init 228 = .ok (.bipush 32, 2) := by decide +kernel
theorem d_Mdl_init_230 : decode b_Mdl_init 230 = .ok (.sipush 2209, 3) := by decide +kernel
theorem d_Mdl_init_233 : decode b_Mdl_init 233 = .ok (.iastore, 1) := by decide +kernel
theorem d_Mdl_init_234 : decode b_Mdl_init 234 = .ok (.dup, 1) := by decide +kernel
theorem d_Mdl_init_235 : decode b_Mdl_init 235 = .ok (.bipush 33, 2) := by decide +kernel
theorem d_Mdl_init_237 : decode b_Mdl_init 237 = .ok (.sipush 1313, 3) := by decide +kernel
theorem d_Mdl_init_240 : decode b_Mdl_init 240 = .ok (.iastore, 1) := by decide +kernel
theorem d_Mdl_init_241 : decode b_Mdl_init 241 = .ok (.dup, 1) := by decide +kernel
theorem d_Mdl_init_242 : decode b_Mdl_init 242 = .ok (.bipush 34, 2) := by decide +kernel
theorem d_Mdl_init_244 : decode b_Mdl_init 244 = .ok (.sipush 1089, 3) := by decide +kernel
theorem d_Mdl_init_247 : decode b_Mdl_init 247 = .ok (.iastore, 1) := by decide +kernel
theorem d_Mdl_init_248 : decode b_Mdl_init 248 = .ok (.dup, 1) := by decide +kernel
theorem d_Mdl_init_249 : decode b_Mdl_init 249 = .ok (.bipush 35, 2) := by decide +kernel
theorem d_Mdl_init_251 : decode b_Mdl_init 251 = .ok (.sipush 673, 3) := by decide +kernel
theorem d_Mdl_init_254 : decode b_Mdl_init 254 = .ok (.iastore, 1) := by decide +kernel
theorem d_Mdl_init_255 : decode b_Mdl_init 255 = .ok (.dup, 1) := by decide +kernel
theorem d_Mdl_init_256 : decode b_Mdl_init 256 = .ok (.bipush 36, 2) := by decide +kernel
theorem d_Mdl_init_258 : decode b_Mdl_init 258 = .ok (.sipush 545, 3) := by decide +kernel
theorem d_Mdl_init_261 : decode b_Mdl_init 261 = .ok (.iastore, 1) := by decide +kernel
theorem d_Mdl_init_262 : decode b_Mdl_init 262 = .ok (.dup, 1) := by decide +kernel
theorem d_Mdl_init_263 : decode b_Mdl_init 263 = .ok (.bipush 37, 2) := by decide +kernel
theorem d_Mdl_init_265 : decode b_Mdl_init 265 = .ok (.sipush 321, 3) := by decide +kernel
theorem d_Mdl_init_268 : decode b_Mdl_init 268 = .ok (.iastore, 1) := by decide +kernel
theorem d_Mdl_init_269 : decode b_Mdl_init 269 = .ok (.dup, 1) := by decide +kernel
theorem d_Mdl_init_270 : decode b_Mdl_init 270 = .ok (.bipush 38, 2) := by decide +kernel
theorem d_Mdl_init_272 : decode b_Mdl_init 272 = .ok (.sipush 273, 3) := by decide +kernel
theorem d_Mdl_init_275 : decode b_Mdl_init 275 = .ok (.iastore, 1) := by decide +kernel
theorem d_Mdl_init_276 : decode b_Mdl_init 276 = .ok (.dup, 1) := by decide +kernel
theorem d_Mdl_init_277 : decode b_Mdl_init 277 = .ok (.bipush 39, 2) := by decide +kernel
theorem d_Mdl_init_279 : decode b_Mdl_init 279 = .ok (.sipush 133, 3) := by decide +kernel
theorem d_Mdl_init_282 : decode b_Mdl_init 282 = .ok (.iastore, 1) := by decide +kernel
theorem d_Mdl_init_283 : decode b_Mdl_init 283 = .ok (.dup, 1) := by decide +kernel
theorem d_Mdl_init_284 : decode b_Mdl_init 284 = .ok (.bipush 40, 2) := by decide +kernel
theorem d_Mdl_init_286 : decode b_Mdl_init 286 = .ok (.bipush 73, 2) := by decide +kernel
theorem d_Mdl_init_288 : decode b_Mdl_init 288 = .ok (.iastore, 1) := by decide +kernel
theorem d_Mdl_init_289 : decode b_Mdl_init 289 = .ok (.dup, 1) := by decide +kernel
theorem d_Mdl_init_290 : decode b_Mdl_init 290 = .ok (.bipush 41, 2) := by decide +kernel
theorem d_Mdl_init_292 : decode b_Mdl_init 292 = .ok (.bipush 37, 2) := by decide +kernel
theorem d_Mdl_init_294 : decode b_Mdl_init 294 = .ok (.iastore, 1) := by decide +kernel
theorem d_Mdl_init_295 : decode b_Mdl_init 295 = .ok (.dup, 1) := by decide +kernel
theorem d_Mdl_init_296 : decode b_Mdl_init 296 = .ok (.bipush 42, 2) := by decide +kernel
theorem d_Mdl_init_298 : decode b_Mdl_init 298 = .ok (.bipush 21, 2) := by decide +kernel
theorem d_Mdl_init_300 : decode b_Mdl_init 300 = .ok (.iastore, 1) := by decide +kernel
theorem d_Mdl_init_301 : decode b_Mdl_init 301 = .ok (.dup, 1) := by decide +kernel
theorem d_Mdl_init_302 : decode b_Mdl_init 302 = .ok (.bipush 43, 2) := by decide +kernel
theorem d_Mdl_init_304 : decode b_Mdl_init 304 = .ok (.bipush 9, 2) := by decide +kernel
theorem d_Mdl_init_306 : decode b_Mdl_init 306 = .ok (.iastore, 1) := by decide +kernel
theorem d_Mdl_init_307 : decode b_Mdl_init 307 = .ok (.dup, 1) := by decide +kernel
theorem d_Mdl_init_308 : decode b_Mdl_init 308 = .ok (.bipush 44, 2) := by decide +kernel
theorem d_Mdl_init_310 : decode b_Mdl_init 310 = .ok (.iconst 5, 1) := by decide +kernel
theorem d_Mdl_init_311 : decode b_Mdl_init 311 = .ok (.iastore, 1) := by decide +kernel
theorem d_Mdl_init_312 : decode b_Mdl_init 312 = .ok (.dup, 1) := by decide +kernel
theorem d_Mdl_init_313 : decode b_Mdl_init 313 = .ok (.bipush 45, 2) := by decide +kernel
theorem d_Mdl_init_315 : decode b_Mdl_init 315 = .ok (.iconst 1, 1) := by decide +kernel
theorem d_Mdl_init_316 : decode b_Mdl_init 316 = .ok (.iastore, 1) := by decide +kernel
theorem d_Mdl_init_317 : decode b_Mdl_init 317 = .ok (.dup, 1) := by decide +kernel
theorem d_Mdl_init_318 : decode b_Mdl_init 318 = .ok (.bipush 46, 2) := by decide +kernel
theorem d_Mdl_init_320 : decode b_Mdl_init 320 = .ok (.sipush 22017, 3) := by decide +kernel
theorem d_Mdl_init_323 : decode b_Mdl_init 323 = .ok (.iastore, 1) := by decide +kernel
theorem d_Mdl_init_324 : decode b_Mdl_init 324 = .ok (.putfield 7, 3) := by decide +kernel
theorem d_Mdl_init_327 : decode b_Mdl_init 327 = .ok (.aload_n 0, 1) := by decide +kernel
theorem d_Mdl_init_328 : decode b_Mdl_init 328 = .ok (.bipush 47, 2) := by decide +kernel
theorem d_Mdl_init_330 : decode b_Mdl_init 330 = .ok (.newarray .int, 2) := by decide +kernel
theorem d_Mdl_init_332 : decode b_Mdl_init 332 = .ok (.dup, 1) := by decide +kernel
theorem d_Mdl_init_333 : decode b_Mdl_init 333 = .ok (.iconst 0, 1) := by decide +kernel
theorem d_Mdl_init_334 : decode b_Mdl_init 334 = .ok (.iconst 1, 1) := by decide +kernel
theorem d_Mdl_init_335 : decode b_Mdl_init 335 = .ok (.iastore, 1) := by decide +kernel
theorem d_Mdl_init_336 : decode b_Mdl_init 336 = .ok (.dup, 1) := by decide +kernel
theorem d_Mdl_init_337 : decode b_Mdl_init 337 = .ok (.iconst 1, 1) := by decide +kernel
theorem d_Mdl_init_338 : decode b_Mdl_init 338 = .ok (.bipush 6, 2) := by decide +kernel
theorem d_Mdl_init_340 : decode b_Mdl_init 340 = .ok (.iastore, 1) := by decide +kernel
theorem d_Mdl_init_341 : decode b_Mdl_init 341 = .ok (.dup, 1) := by decide +kernel
theorem d_Mdl_init_342 : decode b_Mdl_init 342 = .ok (.iconst 2, 1) := by decide +kernel
theorem d_Mdl_init_343 : decode b_Mdl_init 343 = .ok (.bipush 9, 2) := by decide +kernel
theorem d_Mdl_init_345 : decode b_Mdl_init 345 = .ok (.iastore, 1) := by decide +kernel
theorem d_Mdl_init_346 : decode b_Mdl_init 346 = .ok (.dup, 1) := by decide +kernel
theorem d_Mdl_init_347 : decode b_Mdl_init 347 = .ok (.iconst 3, 1) := by decide +kernel
theorem d_Mdl_init_348 : decode b_Mdl_init 348 = .ok (.bipush 12, 2) := by decide +kernel
theorem d_Mdl_init_350 : decode b_Mdl_init 350 = .ok (.iastore, 1) := by decide +kernel
theorem d_Mdl_init_351 : decode b_Mdl_init 351 = .ok (.dup, 1) := by decide +kernel
theorem d_Mdl_init_352 : decode b_Mdl_init 352 = .ok (.iconst 4, 1) := by decide +kernel
theorem d_Mdl_init_353 : decode b_Mdl_init 353 = .ok (.bipush 29, 2) := by decide +kernel
theorem d_Mdl_init_355 : decode b_Mdl_init 355 = .ok (.iastore, 1) := by decide +kernel
theorem d_Mdl_init_356 : decode b_Mdl_init 356 = .ok (.dup, 1) := by decide +kernel
theorem d_Mdl_init_357 : decode b_Mdl_init 357 = .ok (.iconst 5, 1) := by decide +kernel
theorem d_Mdl_init_358 : decode b_Mdl_init 358 = .ok (.bipush 33, 2) := by decide +kernel
theorem d_Mdl_init_360 : decode b_Mdl_init 360 = .ok (.iastore, 1) := by decide +kernel
theorem d_Mdl_init_361 : decode b_Mdl_init 361 = .ok (.dup, 1) := by decide +kernel
theorem d_Mdl_init_362 : decode b_Mdl_init 362 = .ok (.bipush 6, 2) := by decide +kernel
theorem d_Mdl_init_364 : decode b_Mdl_init 364 = .ok (.bipush 6, 2) := by decide +kernel
theorem d_Mdl_init_366 : decode b_Mdl_init 366 = .ok (.iastore, 1) := by decide +kernel
theorem d_Mdl_init_367 : decode b_Mdl_init 367 = .ok (.dup, 1) := by decide +kernel
theorem d_Mdl_init_368 : decode b_Mdl_init 368 = .ok (.bipush 7, 2) := by decide +kernel
theorem d_Mdl_init_370 : decode b_Mdl_init 370 = .ok (.bipush 14, 2) := by decide +kernel
theorem d_Mdl_init_372 : decode b_Mdl_init 372 = .ok (.iastore, 1) := by decide +kernel
theorem d_Mdl_init_373 : decode b_Mdl_init 373 = .ok (.dup, 1) := by decide +kernel
theorem d_Mdl_init_374 : decode b_Mdl_init 374 = .ok (.bipush 8, 2) := by decide +kernel
theorem d_Mdl_init_376 : decode b_Mdl_init 376 = .ok (.bipush 14, 2) := by decide +kernel
theorem d_Mdl_init_378 : decode b_Mdl_init 378 = .ok (.iastore, 1) := by decide +kernel
theorem d_Mdl_init_379 : decode b_Mdl_init 379 = .ok (.dup, 1) := by decide +kernel
theorem d_Mdl_init_380 : decode b_Mdl_init 380 = .ok (.bipush 9, 2) := by decide +kernel
theorem d_Mdl_init_382 : decode b_Mdl_init 382 = .ok (.bipush 14, 2) := by decide +kernel
theorem d_Mdl_init_384 : decode b_Mdl_init 384 = .ok (.iastore, 1) := by decide +kernel
theorem d_Mdl_init_385 : decode b_Mdl_init 385 = .ok (.dup, 1) := by decide +kernel
theorem d_Mdl_init_386 : decode b_Mdl_init 386 = .ok (.bipush 10, 2) := by decide +kernel
theorem d_Mdl_init_388 : decode b_Mdl_init 388 = .ok (.bipush 17, 2) := by decide +kernel
theorem d_Mdl_init_390 : decode b_Mdl_init 390 = .ok (.iastore, 1) := by decide +kernel
theorem d_Mdl_init_391 : decode b_Mdl_init 391 = .ok (.dup, 1) := by decide +kernel
theorem d_Mdl_init_392 : decode b_Mdl_init 392 = .ok (.bipush 11, 2) := by decide +kernel
theorem d_Mdl_init_394 : decode b_Mdl_init 394 = .ok (.bipush 18, 2) := by decide +kernel
theorem d_Mdl_init_396 : decode b_Mdl_init 396 = .ok (.iastore, 1) := by decide +kernel
theorem d_Mdl_init_397 : decode b_Mdl_init 397 = .ok (.dup, 1) := by decide +kernel
theorem d_Mdl_init_398 : decode b_Mdl_init 398 = .ok (.bipush 12, 2) := by decide +kernel
theorem d_Mdl_init_400 : decode b_Mdl_init 400 = .ok (.bipush 20, 2) := by decide +kernel
theorem d_Mdl_init_402 : decode b_Mdl_init 402 = .ok (.iastore, 1) := by decide +kernel
theorem d_Mdl_init_403 : decode b_Mdl_init 403 = .ok (.dup, 1) := by decide +kernel
theorem d_Mdl_init_404 : decode b_Mdl_init 404 = .ok (.bipush 13, 2) := by decide +kernel
theorem d_Mdl_init_406 : decode b_Mdl_init 406 = .ok (.bipush 21, 2) := by decide +kernel
theorem d_Mdl_init_408 : decode b_Mdl_init 408 = .ok (.iastore, 1) := by decide +kernel
theorem d_Mdl_init_409 : decode b_Mdl_init 409 = .ok (.dup, 1) := by decide +kernel
theorem d_Mdl_init_410 : decode b_Mdl_init 410 = .ok (.bipush 14, 2) := by decide +kernel
theorem d_Mdl_init_412 : decode b_Mdl_init 412 = .ok (.bipush 14, 2) := by decide +kernel
theorem d_Mdl_init_414 : decode b_Mdl_init 414 = .ok (.iastore, 1) := by decide +kernel
theorem d_Mdl_init_415 : decode b_Mdl_init 415 = .ok (.dup, 1) := by decide +kernel
theorem d_Mdl_init_416 : decode b_Mdl_init 416 = .ok (.bipush 15, 2) := by decide +kernel
theorem d_Mdl_init_418 : decode b_Mdl_init 418 = .ok (.bipush 14, 2) := by decide +kernel
theorem d_Mdl_init_420 : decode b_Mdl_init 420 = .ok (.iastore, 1) := by decide +kernel
theorem d_Mdl_init_421 : decode b_Mdl_init 421 = .ok (.dup, 1) := by decide +kernel
theorem d_Mdl_init_422 : decode b_Mdl_init 422 = .ok (.bipush 16, 2) := by decide +kernel
theorem d_Mdl_init_424 : decode b_Mdl_init 424 = .ok (.bipush 15, 2) := by decide +kernel
theorem d_Mdl_init_426 : decode b_Mdl_init 426 = .ok (.iastore, 1) := by decide +kernel
theorem d_Mdl_init_427 : decode b_Mdl_init 427 = .ok (.dup, 1) := by decide +kernel
theorem d_Mdl_init_428 : decode b_Mdl_init 428 = .ok (.bipush 17, 2) := by decide +kernel
theorem d_Mdl_init_430 : decode b_Mdl_init 430 = .ok (.bipush 16, 2) := by decide +kernel
theorem d_Mdl_init_432 : decode b_Mdl_init 432 = .ok (.iastore, 1) := by decide +kernel
theorem d_Mdl_init_433 : decode b_Mdl_init 433 = .ok (.dup, 1) := by decide +kernel
theorem d_Mdl_init_434 : decode b_Mdl_init 434 = .ok (.bipush 18, 2) := by decide +kernel
theorem d_Mdl_init_436 : decode b_Mdl_init 436 = .ok (.bipush 17, 2) := by decide +kernel
theorem d_Mdl_init_438 : decode b_Mdl_init 438 = .ok (.iastore, 1) := by decide +kernel
theorem d_Mdl_init_439 : decode b_Mdl_init 439 = .ok (.dup, 1) := by decide +kernel
theorem d_Mdl_init_440 : decode b_Mdl_init 440 = .ok (.bipush 19, 2) := by decide +kernel
theorem d_Mdl_init_442 : decode b_Mdl_init 442 = .ok (.bipush 18, 2) := by decide +kernel
theorem d_Mdl_init_444 : decode b_Mdl_init 444 = .ok (.iastore, 1) := by decide +kernel
theorem d_Mdl_init_445 : decode b_Mdl_init 445 = .ok (.dup, 1) := by decide +kernel
theorem d_Mdl_init_446 : decode b_Mdl_init 446 = .ok (.bipush 20, 2) := by decide +kernel
theorem d_Mdl_init_448 : decode b_Mdl_init 448 = .ok (.bipush 19, 2) := by decide +kernel
theorem d_Mdl_init_450 : decode b_Mdl_init 450 = .ok (.iastore, 1) := by decide +kernel
theorem d_Mdl_init_451 : decode b_Mdl_init 451 = .ok (.dup, 1) := by decide +kernel
theorem d_Mdl_init_452 : decode b_Mdl_init 452 = .ok (.bipush 21, 2) := by decide +kernel
theorem d_Mdl_init_454 : decode b_Mdl_init 454 = .ok (.bipush 19, 2) := by decide +kernel
theorem d_Mdl_init_456 : decode b_Mdl_init 456 = .ok (.iastore, 1) := by decide +kernel
theorem d_Mdl_init_457 : decode b_Mdl_init 457 = .ok (.dup, 1) := by decide +kernel
theorem d_Mdl_init_458 : decode b_Mdl_init 458 = .ok (.bipush 22, 2) := by decide +kernel
theorem d_Mdl_init_460 : decode b_Mdl_init 460 = .ok (.bipush 20, 2) := by decide +kernel
theorem d_Mdl_init_462 : decode b_Mdl_init 462 = .ok (.iastore, 1) := by decide +kernel
theorem d_Mdl_init_463 : decode b_Mdl_init 463 = .ok (.dup, 1) := by decide +kernel
theorem d_Mdl_init_464 : decode b_Mdl_init 464 = .ok (.bipush 23, 2) := by decide +kernel
theorem d_Mdl_init_466 : decode b_Mdl_init 466 = .ok (.bipush 21, 2) := by decide +kernel
theorem d_Mdl_init_468 : decode b_Mdl_init 468 = .ok (.iastore, 1) := by decide +kernel
theorem d_Mdl_init_469 : decode b_Mdl_init 469 = .ok (.dup, 1) := by decide +kernel
theorem d_Mdl_init_470 : decode b_Mdl_init 470 = .ok (.bipush 24, 2) := by decide +kernel
theorem d_Mdl_init_472 : decode b_Mdl_init 472 = .ok (.bipush 22, 2) := by decide +kernel
theorem d_Mdl_init_474 : decode b_Mdl_init 474 = .ok (.iastore, 1) := by decide +kernel
theorem d_Mdl_init_475 : decode b_Mdl_init 475 = .ok (.dup, 1) := by decide +kernel
theorem d_Mdl_init_476 : decode b_Mdl_init 476 = .ok (.bipush 25, 2) := by decide +kernel
theorem d_Mdl_init_478 : decode b_Mdl_init 478 = .ok (.bipush 23, 2) := by decide +kernel
theorem d_Mdl_init_480 : decode b_Mdl_init 480 = .ok (.iastore, 1) := by decide +kernel
theorem d_Mdl_init_481 : decode b_Mdl_init 481 = .ok (.dup, 1) := by decide +kernel
theorem d_Mdl_init_482 : decode b_Mdl_init 482 = .ok (.bipush 26, 2) := by decide +kernel
theorem d_Mdl_init_484 : decode b_Mdl_init 484 = .ok (.bipush 24, 2) := by decide +kernel
theorem d_Mdl_init_486 : decode b_Mdl_init 486 = .ok (.iastore, 1) := by decide +kernel
theorem d_Mdl_init_487 : decode b_Mdl_init 487 = .ok (.dup, 1) := by decide +kernel
theorem d_Mdl_init_488 : decode b_Mdl_init 488 = .ok (.bipush 27, 2) := by decide +kernel
theorem d_Mdl_init_490 : decode b_Mdl_init 490 = .ok (.bipush 25, 2) := by decide +kernel
theorem d_Mdl_init_492 : decode b_Mdl_init 492 = .ok (.iastore, 1) := by decide +kernel
theorem d_Mdl_init_493 : decode b_Mdl_init 493 = .ok (.dup, 1) := by decide +kernel
theorem d_Mdl_init_494 : decode b_Mdl_init 494 = .ok (.bipush 28, 2) := by decide +kernel
theorem d_Mdl_init_496 : decode b_Mdl_init 496 = .ok (.bipush 26, 2) := by decide +kernel
theorem d_Mdl_init_498 : decode b_Mdl_init 498 = .ok (.iastore, 1) := by decide +kernel
theorem d_Mdl_init_499 : decode b_Mdl_init 499 = .ok (.dup, 1) := by decide +kernel
theorem d_Mdl_init_500 : decode b_Mdl_init 500 = .ok (.bipush 29, 2) := by decide +kernel
theorem d_Mdl_init_502 : decode b_Mdl_init 502 = .ok (.bipush 27, 2) := by decide +kernel
theorem d_Mdl_init_504 : decode b_Mdl_init 504 = .ok (.iastore, 1) := by decide +kernel
theorem d_Mdl_init_505 : decode b_Mdl_init 505 = .ok (.dup, 1) := by decide +kernel
theorem d_Mdl_init_506 : decode b_Mdl_init 506 = .ok (.bipush 30, 2) := by decide +kernel
theorem d_Mdl_init_508 : decode b_Mdl_init 508 = .ok (.bipush 28, 2) := by decide +kernel
theorem d_Mdl_init_510 : decode b_Mdl_init 510 = .ok (.iastore, 1) := by decide +kernel
theorem d_Mdl_init_511 : decode b_Mdl_init 511 = .ok (.dup, 1) := by decide +kernel
theorem d_Mdl_init_512 : decode b_Mdl_init 512 = .ok (.bipush 31, 2) := by decide +kernel
theorem d_Mdl_init_514 : decode b_Mdl_init 514 = .ok (.bipush 29, 2) := by decide +kernel
theorem d_Mdl_init_516 : decode b_Mdl_init 516 = .ok (.iastore, 1) := by decide +kernel
theorem d_Mdl_init_517 : decode b_Mdl_init 517 = .ok (.dup, 1) := by decide +kernel
theorem d_Mdl_init_518 : decode b_Mdl_init 518 = .ok (.bipush 32, 2) := by decide +kernel
theorem d_Mdl_init_520 : decode b_Mdl_init 520 = .ok (.bipush 30, 2) := by decide +kernel
theorem d_Mdl_init_522 : decode b_Mdl_init 522 = .ok (.iastore, 1) := by decide +kernel
theorem d_Mdl_init_523 : decode b_Mdl_init 523 = .ok (.dup, 1) := by decide +kernel
theorem d_Mdl_init_524 : decode b_Mdl_init 524 = .ok (.bipush 33, 2) := by decide +kernel
theorem d_Mdl_init_526 : decode b_Mdl_init 526 = .ok (.bipush 31, 2) := by decide +kernel
theorem d_Mdl_init_528 : decode b_Mdl_init 528 = .ok (.iastore, 1) := by decide +kernel
theorem d_Mdl_init_529 : decode b_Mdl_init 529 = .ok (.dup, 1) := by decide +kernel
theorem d_Mdl_init_530 : decode b_Mdl_init 530 = .ok (.bipush 34, 2) := by decide +kernel
theorem d_Mdl_init_532 : decode b_Mdl_init 532 = .ok (.bipush 32, 2) := by decide +kernel
theorem d_Mdl_init_534 : decode b_Mdl_init 534 = .ok (.iastore, 1) := by decide +kernel
theorem d_Mdl_init_535 : decode b_Mdl_init 535 = .ok (.dup, 1) := by decide +kernel
theorem d_Mdl_init_536 : decode b_Mdl_init 536 = .ok (.bipush 35, 2) := by decide +kernel
theorem d_Mdl_init_538 : decode b_Mdl_init 538 = .ok (.bipush 33, 2) := by decide +kernel
theorem d_Mdl_init_540 : decode b_Mdl_init 540 = .ok (.iastore, 1) := by decide +kernel
theorem d_Mdl_init_541 : decode b_Mdl_init 541 = .ok (.dup, 1) := by decide +kernel
theorem d_Mdl_init_542 : decode b_Mdl_init 542 = .ok (.bipush 36, 2) := by decide +kernel
theorem d_Mdl_init_544 : decode b_Mdl_init 544 = .ok (.bipush 34, 2) := by decide +kernel
theorem d_Mdl_init_546 : decode b_Mdl_init 546 = .ok (.iastore, 1) := by decide +kernel
theorem d_Mdl_init_547 : decode b_Mdl_init 547 = .ok (.dup, 1) := by decide +kernel
theorem d_Mdl_init_548 : decode b_Mdl_init 548 = .ok (.bipush 37, 2) := by decide +kernel
theorem d_Mdl_init_550 : decode b_Mdl_init 550 = .ok (.bipush 35, 2) := by decide +kernel
theorem d_Mdl_init_552 : decode b_Mdl_init 552 = .ok (.iastore, 1) := by decide +kernel
theorem d_Mdl_init_553 : decode b_Mdl_init 553 = .ok (.dup, 1) := by decide +kernel
theorem d_Mdl_init_554 : decode b_Mdl_init 554 = .ok (.bipush 38, 2) := by decide +kernel
theorem d_Mdl_init_556 : decode b_Mdl_init 556 = .ok (.bipush 36, 2) := by decide +kernel
theorem d_Mdl_init_558 : decode b_Mdl_init 558 = .ok (.iastore, 1) := by decide +kernel
theorem d_Mdl_init_559 : decode b_Mdl_init 559 = .ok (.dup, 1) := by decide +kernel
theorem d_Mdl_init_560 : decode b_Mdl_init 560 = .ok (.bipush 39, 2) := by decide +kernel
theorem d_Mdl_init_562 : decode b_Mdl_init 562 = .ok (.bipush 37, 2) := by decide +kernel
theorem d_Mdl_init_564 : decode b_Mdl_init 564 = .ok (.iastore, 1) := by decide +kernel
theorem d_Mdl_init_565 : decode b_Mdl_init 565 = .ok (.dup, 1) := by decide +kernel
theorem d_Mdl_init_566 : decode b_Mdl_init 566 = .ok (.bipush 40, 2) := by decide +kernel
theorem d_Mdl_init_568 : decode b_Mdl_init 568 = .ok (.bipush 38, 2) := by decide +kernel
theorem d_Mdl_init_570 : decode b_Mdl_init 570 = .ok (.iastore, 1) := by decide +kernel
theorem d_Mdl_init_571 : decode b_Mdl_init 571 = .ok (.dup, 1) := by decide +kernel
theorem d_Mdl_init_572 : decode b_Mdl_init 572 = .ok (.bipush 41, 2) := by decide +kernel
theorem d_Mdl_init_574 : decode b_Mdl_init 574 = .ok (.bipush 39, 2) := by decide +kernel
theorem d_Mdl_init_576 : decode b_Mdl_init 576 = .ok (.iastore, 1) := by decide +kernel
theorem d_Mdl_init_577 : decode b_Mdl_init 577 = .ok (.dup, 1) := by decide +kernel
theorem d_Mdl_init_578 : decode b_Mdl_init 578 = .ok (.bipush 42, 2) := by decide +kernel
theorem d_Mdl_init_580 : decode b_Mdl_init 580 = .ok (.bipush 40, 2) := by decide +kernel
theorem d_Mdl_init_582 : decode b_Mdl_init 582 = .ok (.iastore, 1) := by decide +kernel
theorem d_Mdl_init_583 : decode b_Mdl_init 583 = .ok (.dup, 1) := by decide +kernel
theorem d_Mdl_init_584 : decode b_Mdl_init 584 = .ok (.bipush 43, 2) := by decide +kernel
theorem d_Mdl_init_586 : decode b_Mdl_init 586 = .ok (.bipush 41, 2) := by decide +kernel
theorem d_Mdl_init_588 : decode b_Mdl_init 588 = .ok (.iastore, 1) := by decide +kernel
theorem d_Mdl_init_589 : decode b_Mdl_init 589 = .ok (.dup, 1) := by decide +kernel
theorem d_Mdl_init_590 : decode b_Mdl_init 590 = .ok (.bipush 44, 2) := by decide +kernel
theorem d_Mdl_init_592 : decode b_Mdl_init 592 = .ok (.bipush 42, 2) := by decide +kernel
theorem d_Mdl_init_594 : decode b_Mdl_init 594 = .ok (.iastore, 1) := by decide +kernel
theorem d_Mdl_init_595 : decode b_Mdl_init 595 = .ok (.dup, 1) := by decide +kernel
theorem d_Mdl_init_596 : decode b_Mdl_init 596 = .ok (.bipush 45, 2) := by decide +kernel
theorem d_Mdl_init_598 : decode b_Mdl_init 598 = .ok (.bipush 43, 2) := by decide +kernel
theorem d_Mdl_init_600 : decode b_Mdl_init 600 = .ok (.iastore, 1) := by decide +kernel
theorem d_Mdl_init_601 : decode b_Mdl_init 601 = .ok (.dup, 1) := by decide +kernel
theorem d_Mdl_init_602 : decode b_Mdl_init 602 = .ok (.bipush 46, 2) := by decide +kernel
theorem d_Mdl_init_604 : decode b_Mdl_init 604 = .ok (.bipush 46, 2) := by decide +kernel
theorem d_Mdl_init_606 : decode b_Mdl_init 606 = .ok (.iastore, 1) := by decide +kernel
theorem d_Mdl_init_607 : decode b_Mdl_init 607 = .ok (.putfield 13, 3) := by decide +kernel
theorem d_Mdl_init_610 : decode b_Mdl_init 610 = .ok (.aload_n 0, 1) := by decide +kernel
theorem d_Mdl_init_611 : decode b_Mdl_init 611 = .ok (.ldc 16, 2) := by decide +kernel
theorem d_Mdl_init_613 : decode b_Mdl_init 613 = .ok (.newarray .int, 2) := by decide +kernel
theorem d_Mdl_init_615 : decode b_Mdl_init 615 = .ok (.putfield 17, 3) := by decide +kernel
theorem d_Mdl_init_618 : decode b_Mdl_init 618 = .ok (.aload_n 0, 1) := by decide +kernel
theorem d_Mdl_init_619 : decode b_Mdl_init 619 = .ok (.bipush 38, 2) := by decide +kernel
theorem d_Mdl_init_621 : decode b_Mdl_init 621 = .ok (.newarray .int, 2) := by decide +kernel
theorem d_Mdl_init_623 : decode b_Mdl_init 623 = .ok (.putfield 20, 3) := by decide +kernel
theorem d_Mdl_init_626 : decode b_Mdl_init 626 = .ok (.aload_n 0, 1) := by decide +kernel
theorem d_Mdl_init_627 : decode b_Mdl_init 627 = .ok (.bipush 38, 2) := by decide +kernel
theorem d_Mdl_init_629 : decode b_Mdl_init 629 = .ok (.newarray .int, 2) := by decide +kernel
theorem d_Mdl_init_631 : decode b_Mdl_init 631 = .ok (.putfield 23, 3) := by decide +kernel
theorem d_Mdl_init_634 : decode b_Mdl_init 634 = .ok (.return_, 1) := by decide +kernel
theorem d_Mdl_thrown_0 : decode b_Mdl_thrown 0 = .ok (.aload_n 0, 1) := by decide +kernel
theorem d_Mdl_thrown_1 : decode b_Mdl_thrown 1 = .ok (.getfield 26, 3) := by decide +kernel
theorem d_Mdl_thrown_4 : decode b_Mdl_thrown 4 = .ok (.ireturn, 1) := by decide +kernel
theorem d_Mdl_throwing_0 : decode b_Mdl_throwing 0 = .ok (.aload_n 0, 1) := by decide +kernel
theorem d_Mdl_throwing_1 : decode b_Mdl_throwing 1 = .ok (.iload_n 1, 1) := by decide +kernel
theorem d_Mdl_throwing_2 : decode b_Mdl_throwing 2 = .ok (.ifCond .eq 7, 3) := by decide +kernel
theorem d_Mdl_throwing_5 : decode b_Mdl_throwing 5 = .ok (.iconst 1, 1) := by decide +kernel
theorem d_Mdl_throwing_6 : decode b_Mdl_throwing 6 = .ok (.goto 20, 3) := by decide +kernel
theorem d_Mdl_throwing_9 : decode b_Mdl_throwing 9 = .ok (.iload_n 2, 1) := by decide +kernel
theorem d_Mdl_throwing_10 : decode b_Mdl_throwing 10 = .ok (.ifCond .eq 7, 3) := by decide +kernel
theorem d_Mdl_throwing_13 : decode b_Mdl_throwing 13 = .ok (.iconst 2, 1) := by decide +kernel
theorem d_Mdl_throwing_14 : decode b_Mdl_throwing 14 = .ok (.goto 12, 3) := by decide +kernel
theorem d_Mdl_throwing_17 : decode b_Mdl_throwing 17 = .ok (.iload_n 3, 1) := by decide +kernel
theorem d_Mdl_throwing_18 : decode b_Mdl_throwing 18 = .ok (.ifCond .eq 7, 3) := by decide +kernel
theorem d_Mdl_throwing_21 : decode b_Mdl_throwing 21 = .ok (.iconst 3, 1) := by decide +kernel
theorem d_Mdl_throwing_22 : decode b_Mdl_throwing 22 = .ok (.goto 4, 3) := by decide +kernel
theorem d_Mdl_throwing_25 : decode b_Mdl_throwing 25 = .ok (.iconst 0, 1) := by decide +kernel
theorem d_Mdl_throwing_26 : decode b_Mdl_throwing 26 = .ok (.putfield 26, 3) := by decide +kernel
theorem d_Mdl_throwing_29 : decode b_Mdl_throwing 29 = .ok (.aload_n 0, 1) := by decide +kernel
theorem d_Mdl_throwing_30 : decode b_Mdl_throwing 30 = .ok (.getfield 26, 3) := by decide +kernel
theorem d_Mdl_throwing_33 : decode b_Mdl_throwing 33 = .ok (.ifCond .le 7, 3) := by decide +kernel
theorem d_Mdl_throwing_36 : decode b_Mdl_throwing 36 = .ok (.iconst 1, 1) := by decide +kernel
theorem d_Mdl_throwing_37 : decode b_Mdl_throwing 37 = .ok (.goto 4, 3) := by decide +kernel
theorem d_Mdl_throwing_40 : decode b_Mdl_throwing 40 = .ok (.iconst 0, 1) := by decide +kernel
theorem d_Mdl_throwing_41 : decode b_Mdl_throwing 41 = .ok (.ireturn, 1) := by decide +kernel
theorem d_Mdl_out_0 : decode b_Mdl_out 0 = .ok (.iload_n 0, 1) := by decide +kernel
theorem d_Mdl_out_1 : decode b_Mdl_out 1 = .ok (.iload_n 1, 1) := by decide +kernel
theorem d_Mdl_out_2 : decode b_Mdl_out 2 = .ok (.if_icmp .lt 8, 3) := by decide +kernel
theorem d_Mdl_out_5 : decode b_Mdl_out 5 = .ok (.iload_n 0, 1) := by decide +kernel
theorem d_Mdl_out_6 : decode b_Mdl_out 6 = .ok (.iload_n 2, 1) := by decide +kernel
theorem d_Mdl_out_7 : decode b_Mdl_out 7 = .ok (.if_icmp .le 7, 3) := by decide +kernel
theorem d_Mdl_out_10 : decode b_Mdl_out 10 = .ok (.iconst 1, 1) := by decide +kernel
theorem d_Mdl_out_11 : decode b_Mdl_out 11 = .ok (.goto 4, 3) := by decide +kernel
theorem d_Mdl_out_14 : decode b_Mdl_out 14 = .ok (.iconst 0, 1) := by decide +kernel
theorem d_Mdl_out_15 : decode b_Mdl_out 15 = .ok (.ireturn, 1) := by decide +kernel
theorem d_Mdl_clear_0 : decode b_Mdl_clear 0 = .ok (.aload_n 0, 1) := by decide +kernel
theorem d_Mdl_clear_1 : decode b_Mdl_clear 1 = .ok (.iconst 0, 1) := by decide +kernel
theorem d_Mdl_clear_2 : decode b_Mdl_clear 2 = .ok (.putfield 26, 3) := by decide +kernel
theorem d_Mdl_clear_5 : decode b_Mdl_clear 5 = .ok (.aload_n 0, 1) := by decide +kernel
theorem d_Mdl_clear_6 : decode b_Mdl_clear 6 = .ok (.iconst 0, 1) := by decide +kernel
theorem d_Mdl_clear_7 : decode b_Mdl_clear 7 = .ok (.putfield 30, 3) := by decide +kernel
theorem d_Mdl_clear_10 : decode b_Mdl_clear 10 = .ok (.aload_n 0, 1) := by decide +kernel
theorem d_Mdl_clear_11 : decode b_Mdl_clear 11 = .ok (.iconst 0, 1) := by decide +kernel
theorem d_Mdl_clear_12 : decode b_Mdl_clear 12 = .ok (.putfield 33, 3) := by decide +kernel
theorem d_Mdl_clear_15 : decode b_Mdl_clear 15 = .ok (.aload_n 0, 1) := by decide +kernel
theorem d_Mdl_clear_16 : decode b_Mdl_clear 16 = .ok (.iconst 0, 1) := by decide +kernel
theorem d_Mdl_clear_17 : decode b_Mdl_clear 17 = .ok (.putfield 37, 3) := by decide +kernel
theorem d_Mdl_clear_20 : decode b_Mdl_clear 20 = .ok (.return_, 1) := by decide +kernel
theorem d_Mdl_put_0 : decode b_Mdl_put 0 = .ok (.aload_n 0, 1) := by decide +kernel
theorem d_Mdl_put_1 : decode b_Mdl_put 1 = .ok (.iload_n 1, 1) := by decide +kernel
theorem d_Mdl_put_2 : decode b_Mdl_put 2 = .ok (.iconst 0, 1) := by decide +kernel
theorem d_Mdl_put_3 : decode b_Mdl_put 3 = .ok (.sipush 255, 3) := by decide +kernel
theorem d_Mdl_put_6 : decode b_Mdl_put 6 = .ok (.invokestatic 40, 3) := by decide +kernel
theorem d_Mdl_put_9 : decode b_Mdl_put 9 = .ok (.aload_n 0, 1) := by decide +kernel
theorem d_Mdl_put_10 : decode b_Mdl_put 10 = .ok (.getfield 33, 3) := by decide +kernel
theorem d_Mdl_put_13 : decode b_Mdl_put 13 = .ok (.aload_n 0, 1) := by decide +kernel
theorem d_Mdl_put_14 : decode b_Mdl_put 14 = .ok (.getfield 30, 3) := by decide +kernel
theorem d_Mdl_put_17 : decode b_Mdl_put 17 = .ok (.ldc 16, 2) := by decide +kernel
theorem d_Mdl_put_19 : decode b_Mdl_put 19 = .ok (.if_icmp .ne 7, 3) := by decide +kernel
theorem d_Mdl_put_22 : decode b_Mdl_put 22 = .ok (.iconst 1, 1) := by decide +kernel
theorem d_Mdl_put_23 : decode b_Mdl_put 23 = .ok (.goto 4, 3) := by decide +kernel
theorem d_Mdl_put_26 : decode b_Mdl_put 26 = .ok (.iconst 0, 1) := by decide +kernel
theorem d_Mdl_put_27 : decode b_Mdl_put 27 = .ok (.invokevirtual 44, 3) := by decide +kernel
theorem d_Mdl_put_30 : decode b_Mdl_put 30 = .ok (.ifCond .eq 5, 3) := by decide +kernel
theorem d_Mdl_put_33 : decode b_Mdl_put 33 = .ok (.iconst 0, 1) := by decide +kernel
theorem d_Mdl_put_34 : decode b_Mdl_put 34 = .ok (.ireturn, 1) := by decide +kernel
theorem d_Mdl_put_35 : decode b_Mdl_put 35 = .ok (.aload_n 0, 1) := by decide +kernel
theorem d_Mdl_put_36 : decode b_Mdl_put 36 = .ok (.getfield 17, 3) := by decide +kernel
theorem d_Mdl_put_39 : decode b_Mdl_put 39 = .ok (.aload_n 0, 1) := by decide +kernel
theorem d_Mdl_put_40 : decode b_Mdl_put 40 = .ok (.getfield 30, 3) := by decide +kernel
theorem d_Mdl_put_43 : decode b_Mdl_put 43 = .ok (.iload_n 1, 1) := by decide +kernel
theorem d_Mdl_put_44 : decode b_Mdl_put 44 = .ok (.iastore, 1) := by decide +kernel
theorem d_Mdl_put_45 : decode b_Mdl_put 45 = .ok (.aload_n 0, 1) := by decide +kernel
theorem d_Mdl_put_46 : decode b_Mdl_put 46 = .ok (.dup, 1) := by decide +kernel
theorem d_Mdl_put_47 : decode b_Mdl_put 47 = .ok (.getfield 30, 3) := by decide +kernel
theorem d_Mdl_put_50 : decode b_Mdl_put 50 = .ok (.iconst 1, 1) := by decide +kernel
theorem d_Mdl_put_51 : decode b_Mdl_put 51 = .ok (.iadd, 1) := by decide +kernel
theorem d_Mdl_put_52 : decode b_Mdl_put 52 = .ok (.putfield 30, 3) := by decide +kernel
theorem d_Mdl_put_55 : decode b_Mdl_put 55 = .ok (.aload_n 0, 1) := by decide +kernel
end
section
theorem d_Mdl_put_56 : decode b_Mdl_put 56 = .ok (.getfield 30, 3) := by decide +kernel
theorem d_Mdl_put_59 : decode b_Mdl_put 59 = .ok (.ireturn, 1) := by decide +kernel
theorem d_Mdl_at_0 : decode b_Mdl_at 0 = .ok (.aload_n 0, 1) := by decide +kernel
theorem d_Mdl_at_1 : decode b_Mdl_at 1 = .ok (.iload_n 1, 1) := by decide +kernel
theorem d_Mdl_at_2 : decode b_Mdl_at 2 = .ok (.iconst (-1), 1) := by decide +kernel
theorem d_Mdl_at_3 : decode b_Mdl_at 3 = .ok (.aload_n 0, 1) := by decide +kernel
theorem d_Mdl_at_4 : decode b_Mdl_at 4 = .ok (.getfield 30, 3) := by decide +kernel
theorem d_Mdl_at_7 : decode b_Mdl_at 7 = .ok (.iconst 1, 1) := by decide +kernel
theorem d_Mdl_at_8 : decode b_Mdl_at 8 = .ok (.isub, 1) := by decide +kernel
theorem d_Mdl_at_9 : decode b_Mdl_at 9 = .ok (.invokestatic 40, 3) := by decide +kernel
theorem d_Mdl_at_12 : decode b_Mdl_at 12 = .ok (.iconst 0, 1) := by decide +kernel
theorem d_Mdl_at_13 : decode b_Mdl_at 13 = .ok (.iconst 0, 1) := by decide +kernel
theorem d_Mdl_at_14 : decode b_Mdl_at 14 = .ok (.invokevirtual 44, 3) := by decide +kernel
theorem d_Mdl_at_17 : decode b_Mdl_at 17 = .ok (.ifCond .eq 5, 3) := by decide +kernel
theorem d_Mdl_at_20 : decode b_Mdl_at 20 = .ok (.iconst 0, 1) := by decide +kernel
theorem d_Mdl_at_21 : decode b_Mdl_at 21 = .ok (.ireturn, 1) := by decide +kernel
theorem d_Mdl_at_22 : decode b_Mdl_at 22 = .ok (.iload_n 1, 1) := by decide +kernel
theorem d_Mdl_at_23 : decode b_Mdl_at 23 = .ok (.ifCond .ge 10, 3) := by decide +kernel
theorem d_Mdl_at_26 : decode b_Mdl_at 26 = .ok (.aload_n 0, 1) := by decide +kernel
theorem d_Mdl_at_27 : decode b_Mdl_at 27 = .ok (.getfield 30, 3) := by decide +kernel
theorem d_Mdl_at_30 : decode b_Mdl_at 30 = .ok (.goto 9, 3) := by decide +kernel
theorem d_Mdl_at_33 : decode b_Mdl_at 33 = .ok (.aload_n 0, 1) := by decide +kernel
theorem d_Mdl_at_34 : decode b_Mdl_at 34 = .ok (.getfield 17, 3) := by decide +kernel
theorem d_Mdl_at_37 : decode b_Mdl_at 37 = .ok (.iload_n 1, 1) := by decide +kernel
theorem d_Mdl_at_38 : decode b_Mdl_at 38 = .ok (.iaload, 1) := by decide +kernel
theorem d_Mdl_at_39 : decode b_Mdl_at 39 = .ok (.ireturn, 1) := by decide +kernel
theorem d_Mdl_context_0 : decode b_Mdl_context 0 = .ok (.aload_n 0, 1) := by decide +kernel
theorem d_Mdl_context_1 : decode b_Mdl_context 1 = .ok (.iload_n 2, 1) := by decide +kernel
theorem d_Mdl_context_2 : decode b_Mdl_context 2 = .ok (.iconst 0, 1) := by decide +kernel
theorem d_Mdl_context_3 : decode b_Mdl_context 3 = .ok (.bipush 18, 2) := by decide +kernel
theorem d_Mdl_context_5 : decode b_Mdl_context 5 = .ok (.invokestatic 40, 3) := by decide +kernel
theorem d_Mdl_context_8 : decode b_Mdl_context 8 = .ok (.ifCond .ne 23, 3) := by decide +kernel
theorem d_Mdl_context_11 : decode b_Mdl_context 11 = .ok (.iload_n 3, 1) := by decide +kernel
theorem d_Mdl_context_12 : decode b_Mdl_context 12 = .ok (.iconst 0, 1) := by decide +kernel
theorem d_Mdl_context_13 : decode b_Mdl_context 13 = .ok (.bipush 46, 2) := by decide +kernel
theorem d_Mdl_context_15 : decode b_Mdl_context 15 = .ok (.invokestatic 40, 3) := by decide +kernel
theorem d_Mdl_context_18 : decode b_Mdl_context 18 = .ok (.ifCond .ne 13, 3) := by decide +kernel
theorem d_Mdl_context_21 : decode b_Mdl_context 21 = .ok (.iload 4, 2) := by decide +kernel
theorem d_Mdl_context_23 : decode b_Mdl_context 23 = .ok (.iconst 0, 1) := by decide +kernel
theorem d_Mdl_context_24 : decode b_Mdl_context 24 = .ok (.iconst 1, 1) := by decide +kernel
theorem d_Mdl_context_25 : decode b_Mdl_context 25 = .ok (.invokestatic 40, 3) := by decide +kernel
theorem d_Mdl_context_28 : decode b_Mdl_context 28 = .ok (.ifCond .eq 7, 3) := by decide +kernel
theorem d_Mdl_context_31 : decode b_Mdl_context 31 = .ok (.iconst 1, 1) := by decide +kernel
theorem d_Mdl_context_32 : decode b_Mdl_context 32 = .ok (.goto 4, 3) := by decide +kernel
theorem d_Mdl_context_35 : decode b_Mdl_context 35 = .ok (.iconst 0, 1) := by decide +kernel
theorem d_Mdl_context_36 : decode b_Mdl_context 36 = .ok (.iconst 0, 1) := by decide +kernel
theorem d_Mdl_context_37 : decode b_Mdl_context 37 = .ok (.iconst 0, 1) := by decide +kernel
theorem d_Mdl_context_38 : decode b_Mdl_context 38 = .ok (.invokevirtual 44, 3) := by decide +kernel
theorem d_Mdl_context_41 : decode b_Mdl_context 41 = .ok (.ifCond .eq 4, 3) := by decide +kernel
theorem d_Mdl_context_44 : decode b_Mdl_context 44 = .ok (.return_, 1) := by decide +kernel
theorem d_Mdl_context_45 : decode b_Mdl_context 45 = .ok (.iload_n 1, 1) := by decide +kernel
theorem d_Mdl_context_46 : decode b_Mdl_context 46 = .ok (.ifCond .eq 10, 3) := by decide +kernel
theorem d_Mdl_context_49 : decode b_Mdl_context 49 = .ok (.bipush 19, 2) := by decide +kernel
theorem d_Mdl_context_51 : decode b_Mdl_context 51 = .ok (.iload_n 2, 1) := by decide +kernel
theorem d_Mdl_context_52 : decode b_Mdl_context 52 = .ok (.iadd, 1) := by decide +kernel
theorem d_Mdl_context_53 : decode b_Mdl_context 53 = .ok (.goto 4, 3) := by decide +kernel
theorem d_Mdl_context_56 : decode b_Mdl_context 56 = .ok (.iload_n 2, 1) := by decide +kernel
theorem d_Mdl_context_57 : decode b_Mdl_context 57 = .ok (.istore 5, 2) := by decide +kernel
theorem d_Mdl_context_59 : decode b_Mdl_context 59 = .ok (.aload_n 0, 1) := by decide +kernel
theorem d_Mdl_context_60 : decode b_Mdl_context 60 = .ok (.getfield 20, 3) := by decide +kernel
theorem d_Mdl_context_63 : decode b_Mdl_context 63 = .ok (.iload 5, 2) := by decide +kernel
theorem d_Mdl_context_65 : decode b_Mdl_context 65 = .ok (.iload_n 3, 1) := by decide +kernel
theorem d_Mdl_context_66 : decode b_Mdl_context 66 = .ok (.iastore, 1) := by decide +kernel
theorem d_Mdl_context_67 : decode b_Mdl_context 67 = .ok (.aload_n 0, 1) := by decide +kernel
theorem d_Mdl_context_68 : decode b_Mdl_context 68 = .ok (.getfield 23, 3) := by decide +kernel
theorem d_Mdl_context_71 : decode b_Mdl_context 71 = .ok (.iload 5, 2) := by decide +kernel
theorem d_Mdl_context_73 : decode b_Mdl_context 73 = .ok (.iload 4, 2) := by decide +kernel
theorem d_Mdl_context_75 : decode b_Mdl_context 75 = .ok (.iastore, 1) := by decide +kernel
theorem d_Mdl_context_76 : decode b_Mdl_context 76 = .ok (.return_, 1) := by decide +kernel
theorem d_Mdl_state_0 : decode b_Mdl_state 0 = .ok (.aload_n 0, 1) := by decide +kernel
theorem d_Mdl_state_1 : decode b_Mdl_state 1 = .ok (.iload_n 2, 1) := by decide +kernel
theorem d_Mdl_state_2 : decode b_Mdl_state 2 = .ok (.iconst 0, 1) := by decide +kernel
theorem d_Mdl_state_3 : decode b_Mdl_state 3 = .ok (.bipush 18, 2) := by decide +kernel
theorem d_Mdl_state_5 : decode b_Mdl_state 5 = .ok (.invokestatic 40, 3) := by decide +kernel
theorem d_Mdl_state_8 : decode b_Mdl_state 8 = .ok (.iconst 0, 1) := by decide +kernel
theorem d_Mdl_state_9 : decode b_Mdl_state 9 = .ok (.iconst 0, 1) := by decide +kernel
theorem d_Mdl_state_10 : decode b_Mdl_state 10 = .ok (.invokevirtual 44, 3) := by decide +kernel
theorem d_Mdl_state_13 : decode b_Mdl_state 13 = .ok (.ifCond .eq 5, 3) := by decide +kernel
theorem d_Mdl_state_16 : decode b_Mdl_state 16 = .ok (.iconst 0, 1) := by decide +kernel
theorem d_Mdl_state_17 : decode b_Mdl_state 17 = .ok (.ireturn, 1) := by decide +kernel
theorem d_Mdl_state_18 : decode b_Mdl_state 18 = .ok (.iload_n 1, 1) := by decide +kernel
theorem d_Mdl_state_19 : decode b_Mdl_state 19 = .ok (.ifCond .eq 10, 3) := by decide +kernel
theorem d_Mdl_state_22 : decode b_Mdl_state 22 = .ok (.bipush 19, 2) := by decide +kernel
theorem d_Mdl_state_24 : decode b_Mdl_state 24 = .ok (.iload_n 2, 1) := by decide +kernel
theorem d_Mdl_state_25 : decode b_Mdl_state 25 = .ok (.iadd, 1) := by decide +kernel
theorem d_Mdl_state_26 : decode b_Mdl_state 26 = .ok (.goto 4, 3) := by decide +kernel
theorem d_Mdl_state_29 : decode b_Mdl_state 29 = .ok (.iload_n 2, 1) := by decide +kernel
theorem d_Mdl_state_30 : decode b_Mdl_state 30 = .ok (.istore_n 3, 1) := by decide +kernel
theorem d_Mdl_state_31 : decode b_Mdl_state 31 = .ok (.iconst 2, 1) := by decide +kernel
theorem d_Mdl_state_32 : decode b_Mdl_state 32 = .ok (.aload_n 0, 1) := by decide +kernel
theorem d_Mdl_state_33 : decode b_Mdl_state 33 = .ok (.getfield 20, 3) := by decide +kernel
theorem d_Mdl_state_36 : decode b_Mdl_state 36 = .ok (.iload_n 3, 1) := by decide +kernel
theorem d_Mdl_state_37 : decode b_Mdl_state 37 = .ok (.iaload, 1) := by decide +kernel
theorem d_Mdl_state_38 : decode b_Mdl_state 38 = .ok (.imul, 1) := by decide +kernel
theorem d_Mdl_state_39 : decode b_Mdl_state 39 = .ok (.aload_n 0, 1) := by decide +kernel
theorem d_Mdl_state_40 : decode b_Mdl_state 40 = .ok (.getfield 23, 3) := by decide +kernel
theorem d_Mdl_state_43 : decode b_Mdl_state 43 = .ok (.iload_n 3, 1) := by decide +kernel
theorem d_Mdl_state_44 : decode b_Mdl_state 44 = .ok (.iaload, 1) := by decide +kernel
theorem d_Mdl_state_45 : decode b_Mdl_state 45 = .ok (.iadd, 1) := by decide +kernel
theorem d_Mdl_state_46 : decode b_Mdl_state 46 = .ok (.ireturn, 1) := by decide +kernel
theorem d_Mdl_nextOf_0 : decode b_Mdl_nextOf 0 = .ok (.iload_n 0, 1) := by decide +kernel
theorem d_Mdl_nextOf_1 : decode b_Mdl_nextOf 1 = .ok (.iconst 5, 1) := by decide +kernel
theorem d_Mdl_nextOf_2 : decode b_Mdl_nextOf 2 = .ok (.if_icmp .ne 8, 3) := by decide +kernel
theorem d_Mdl_nextOf_5 : decode b_Mdl_nextOf 5 = .ok (.bipush 38, 2) := by decide +kernel
theorem d_Mdl_nextOf_7 : decode b_Mdl_nextOf 7 = .ok (.goto 33, 3) := by decide +kernel
theorem d_Mdl_nextOf_10 : decode b_Mdl_nextOf 10 = .ok (.iload_n 0, 1) := by decide +kernel
theorem d_Mdl_nextOf_11 : decode b_Mdl_nextOf 11 = .ok (.bipush 13, 2) := by decide +kernel
theorem d_Mdl_nextOf_13 : decode b_Mdl_nextOf 13 = .ok (.if_icmp .ne 8, 3) := by decide +kernel
theorem d_Mdl_nextOf_16 : decode b_Mdl_nextOf 16 = .ok (.bipush 29, 2) := by decide +kernel
theorem d_Mdl_nextOf_18 : decode b_Mdl_nextOf 18 = .ok (.goto 22, 3) := by decide +kernel
theorem d_Mdl_nextOf_21 : decode b_Mdl_nextOf 21 = .ok (.iload_n 0, 1) := by decide +kernel
theorem d_Mdl_nextOf_22 : decode b_Mdl_nextOf 22 = .ok (.bipush 45, 2) := by decide +kernel
theorem d_Mdl_nextOf_24 : decode b_Mdl_nextOf 24 = .ok (.if_icmp .eq 9, 3) := by decide +kernel
theorem d_Mdl_nextOf_27 : decode b_Mdl_nextOf 27 = .ok (.iload_n 0, 1) := by decide +kernel
theorem d_Mdl_nextOf_28 : decode b_Mdl_nextOf 28 = .ok (.bipush 46, 2) := by decide +kernel
theorem d_Mdl_nextOf_30 : decode b_Mdl_nextOf 30 = .ok (.if_icmp .ne 7, 3) := by decide +kernel
theorem d_Mdl_nextOf_33 : decode b_Mdl_nextOf 33 = .ok (.iload_n 0, 1) := by decide +kernel
theorem d_Mdl_nextOf_34 : decode b_Mdl_nextOf 34 = .ok (.goto 6, 3) := by decide +kernel
theorem d_Mdl_nextOf_37 : decode b_Mdl_nextOf 37 = .ok (.iload_n 0, 1) := by decide +kernel
theorem d_Mdl_nextOf_38 : decode b_Mdl_nextOf 38 = .ok (.iconst 1, 1) := by decide +kernel
theorem d_Mdl_nextOf_39 : decode b_Mdl_nextOf 39 = .ok (.iadd, 1) := by decide +kernel
theorem d_Mdl_nextOf_40 : decode b_Mdl_nextOf 40 = .ok (.ireturn, 1) := by decide +kernel
theorem d_Mdl_change_0 : decode b_Mdl_change 0 = .ok (.aload_n 0, 1) := by decide +kernel
theorem d_Mdl_change_1 : decode b_Mdl_change 1 = .ok (.getfield 20, 3) := by decide +kernel
theorem d_Mdl_change_4 : decode b_Mdl_change 4 = .ok (.iload_n 1, 1) := by decide +kernel
theorem d_Mdl_change_5 : decode b_Mdl_change 5 = .ok (.iaload, 1) := by decide +kernel
theorem d_Mdl_change_6 : decode b_Mdl_change 6 = .ok (.istore_n 3, 1) := by decide +kernel
theorem d_Mdl_change_7 : decode b_Mdl_change 7 = .ok (.iload_n 2, 1) := by decide +kernel
theorem d_Mdl_change_8 : decode b_Mdl_change 8 = .ok (.ifCond .ne 33, 3) := by decide +kernel
theorem d_Mdl_change_11 : decode b_Mdl_change 11 = .ok (.iload_n 3, 1) := by decide +kernel
theorem d_Mdl_change_12 : decode b_Mdl_change 12 = .ok (.ifCond .eq 15, 3) := by decide +kernel
theorem d_Mdl_change_15 : decode b_Mdl_change 15 = .ok (.iload_n 3, 1) := by decide +kernel
theorem d_Mdl_change_16 : decode b_Mdl_change 16 = .ok (.bipush 6, 2) := by decide +kernel
theorem d_Mdl_change_18 : decode b_Mdl_change 18 = .ok (.if_icmp .eq 9, 3) := by decide +kernel
theorem d_Mdl_change_21 : decode b_Mdl_change 21 = .ok (.iload_n 3, 1) := by decide +kernel
theorem d_Mdl_change_22 : decode b_Mdl_change 22 = .ok (.bipush 14, 2) := by decide +kernel
theorem d_Mdl_change_24 : decode b_Mdl_change 24 = .ok (.if_icmp .ne 17, 3) := by decide +kernel
theorem d_Mdl_change_27 : decode b_Mdl_change 27 = .ok (.aload_n 0, 1) := by decide +kernel
theorem d_Mdl_change_28 : decode b_Mdl_change 28 = .ok (.getfield 23, 3) := by decide +kernel
theorem d_Mdl_change_31 : decode b_Mdl_change 31 = .ok (.iload_n 1, 1) := by decide +kernel
theorem d_Mdl_change_32 : decode b_Mdl_change 32 = .ok (.iconst 1, 1) := by decide +kernel
theorem d_Mdl_change_33 : decode b_Mdl_change 33 = .ok (.aload_n 0, 1) := by decide +kernel
theorem d_Mdl_change_34 : decode b_Mdl_change 34 = .ok (.getfield 23, 3) := by decide +kernel
theorem d_Mdl_change_37 : decode b_Mdl_change 37 = .ok (.iload_n 1, 1) := by decide +kernel
theorem d_Mdl_change_38 : decode b_Mdl_change 38 = .ok (.iaload, 1) := by decide +kernel
theorem d_Mdl_change_39 : decode b_Mdl_change 39 = .ok (.isub, 1) := by decide +kernel
theorem d_Mdl_change_40 : decode b_Mdl_change 40 = .ok (.iastore, 1) := by decide +kernel
theorem d_Mdl_change_41 : decode b_Mdl_change 41 = .ok (.aload_n 0, 1) := by decide +kernel
theorem d_Mdl_change_42 : decode b_Mdl_change 42 = .ok (.getfield 20, 3) := by decide +kernel
theorem d_Mdl_change_45 : decode b_Mdl_change 45 = .ok (.iload_n 1, 1) := by decide +kernel
theorem d_Mdl_change_46 : decode b_Mdl_change 46 = .ok (.iload_n 2, 1) := by decide +kernel
theorem d_Mdl_change_47 : decode b_Mdl_change 47 = .ok (.ifCond .eq 10, 3) := by decide +kernel
theorem d_Mdl_change_50 : decode b_Mdl_change 50 = .ok (.iload_n 3, 1) := by decide +kernel
theorem d_Mdl_change_51 : decode b_Mdl_change 51 = .ok (.invokestatic 48, 3) := by decide +kernel
theorem d_Mdl_change_54 : decode b_Mdl_change 54 = .ok (.goto 9, 3) := by decide +kernel
theorem d_Mdl_change_57 : decode b_Mdl_change 57 = .ok (.aload_n 0, 1) := by decide +kernel
theorem d_Mdl_change_58 : decode b_Mdl_change 58 = .ok (.getfield 13, 3) := by decide +kernel
theorem d_Mdl_change_61 : decode b_Mdl_change 61 = .ok (.iload_n 3, 1) := by decide +kernel
theorem d_Mdl_change_62 : decode b_Mdl_change 62 = .ok (.iaload, 1) := by decide +kernel
theorem d_Mdl_change_63 : decode b_Mdl_change 63 = .ok (.iastore, 1) := by decide +kernel
theorem d_Mdl_change_64 : decode b_Mdl_change 64 = .ok (.return_, 1) := by decide +kernel
theorem d_Mdl_doublings_0 : decode b_Mdl_doublings 0 = .ok (.iconst 0, 1) := by decide +kernel
theorem d_Mdl_doublings_1 : decode b_Mdl_doublings 1 = .ok (.istore_n 1, 1) := by decide +kernel
theorem d_Mdl_doublings_2 : decode b_Mdl_doublings 2 = .ok (.iload_n 0, 1) := by decide +kernel
theorem d_Mdl_doublings_3 : decode b_Mdl_doublings 3 = .ok (.istore_n 2, 1) := by decide +kernel
theorem d_Mdl_doublings_4 : decode b_Mdl_doublings 4 = .ok (.iload_n 2, 1) := by decide +kernel
theorem d_Mdl_doublings_5 : decode b_Mdl_doublings 5 = .ok (.ldc 52, 2) := by decide +kernel
theorem d_Mdl_doublings_7 : decode b_Mdl_doublings 7 = .ok (.if_icmp .ge 13, 3) := by decide +kernel
theorem d_Mdl_doublings_10 : decode b_Mdl_doublings 10 = .ok (.iload_n 2, 1) := by decide +kernel
theorem d_Mdl_doublings_11 : decode b_Mdl_doublings 11 = .ok (.iload_n 2, 1) := by decide +kernel
theorem d_Mdl_doublings_12 : decode b_Mdl_doublings 12 = .ok (.iadd, 1) := by decide +kernel
theorem d_Mdl_doublings_13 : decode b_Mdl_doublings 13 = .ok (.istore_n 2, 1) := by decide +kernel
theorem d_Mdl_doublings_14 : decode b_Mdl_doublings 14 = .ok (.iinc 1 1, 3) := by decide +kernel
theorem d_Mdl_doublings_17 : decode b_Mdl_doublings 17 = .ok (.goto (-13), 3) := by decide +kernel
theorem d_Mdl_doublings_20 : decode b_Mdl_doublings 20 = .ok (.iload_n 1, 1) := by decide +kernel
theorem d_Mdl_doublings_21 : decode b_Mdl_doublings 21 = .ok (.ireturn, 1) := by decide +kernel
theorem d_Mdl_hasLast_0 : decode b_Mdl_hasLast 0 = .ok (.aload_n 0, 1) := by decide +kernel
theorem d_Mdl_hasLast_1 : decode b_Mdl_hasLast 1 = .ok (.getfield 30, 3) := by decide +kernel
theorem d_Mdl_hasLast_4 : decode b_Mdl_hasLast 4 = .ok (.aload_n 0, 1) := by decide +kernel
theorem d_Mdl_hasLast_5 : decode b_Mdl_hasLast 5 = .ok (.getfield 53, 3) := by decide +kernel
theorem d_Mdl_hasLast_8 : decode b_Mdl_hasLast 8 = .ok (.if_icmp .le 7, 3) := by decide +kernel
theorem d_Mdl_hasLast_11 : decode b_Mdl_hasLast 11 = .ok (.iconst 1, 1) := by decide +kernel
theorem d_Mdl_hasLast_12 : decode b_Mdl_hasLast 12 = .ok (.goto 4, 3) := by decide +kernel
theorem d_Mdl_hasLast_15 : decode b_Mdl_hasLast 15 = .ok (.iconst 0, 1) := by decide +kernel
theorem d_Mdl_hasLast_16 : decode b_Mdl_hasLast 16 = .ok (.ireturn, 1) := by decide +kernel
theorem d_Mdl_takes_0 : decode b_Mdl_takes 0 = .ok (.aload_n 0, 1) := by decide +kernel
theorem d_Mdl_takes_1 : decode b_Mdl_takes 1 = .ok (.invokevirtual 56, 3) := by decide +kernel
theorem d_Mdl_takes_4 : decode b_Mdl_takes 4 = .ok (.ifCond .eq 24, 3) := by decide +kernel
theorem d_Mdl_takes_7 : decode b_Mdl_takes 7 = .ok (.aload_n 0, 1) := by decide +kernel
theorem d_Mdl_takes_8 : decode b_Mdl_takes 8 = .ok (.getfield 17, 3) := by decide +kernel
theorem d_Mdl_takes_11 : decode b_Mdl_takes 11 = .ok (.aload_n 0, 1) := by decide +kernel
theorem d_Mdl_takes_12 : decode b_Mdl_takes 12 = .ok (.getfield 30, 3) := by decide +kernel
theorem d_Mdl_takes_15 : decode b_Mdl_takes 15 = .ok (.iconst 1, 1) := by decide +kernel
theorem d_Mdl_takes_16 : decode b_Mdl_takes 16 = .ok (.isub, 1) := by decide +kernel
theorem d_Mdl_takes_17 : decode b_Mdl_takes 17 = .ok (.iaload, 1) := by decide +kernel
theorem d_Mdl_takes_18 : decode b_Mdl_takes 18 = .ok (.sipush 255, 3) := by decide +kernel
theorem d_Mdl_takes_21 : decode b_Mdl_takes 21 = .ok (.if_icmp .ge 7, 3) := by decide +kernel
theorem d_Mdl_takes_24 : decode b_Mdl_takes 24 = .ok (.iconst 1, 1) := by decide +kernel
theorem d_Mdl_takes_25 : decode b_Mdl_takes 25 = .ok (.goto 4, 3) := by decide +kernel
theorem d_Mdl_takes_28 : decode b_Mdl_takes 28 = .ok (.iconst 0, 1) := by decide +kernel
theorem d_Mdl_takes_29 : decode b_Mdl_takes 29 = .ok (.ireturn, 1) := by decide +kernel
theorem d_Mdl_carry_0 : decode b_Mdl_carry 0 = .ok (.aload_n 0, 1) := by decide +kernel
theorem d_Mdl_carry_1 : decode b_Mdl_carry 1 = .ok (.getfield 60, 3) := by decide +kernel
theorem d_Mdl_carry_4 : decode b_Mdl_carry 4 = .ok (.ifCond .eq 15, 3) := by decide +kernel
theorem d_Mdl_carry_7 : decode b_Mdl_carry 7 = .ok (.iconst 1, 1) := by decide +kernel
theorem d_Mdl_carry_8 : decode b_Mdl_carry 8 = .ok (.bipush 27, 2) := by decide +kernel
theorem d_Mdl_carry_10 : decode b_Mdl_carry 10 = .ok (.aload_n 0, 1) := by decide +kernel
theorem d_Mdl_carry_11 : decode b_Mdl_carry 11 = .ok (.getfield 63, 3) := by decide +kernel
theorem d_Mdl_carry_14 : decode b_Mdl_carry 14 = .ok (.isub, 1) := by decide +kernel
theorem d_Mdl_carry_15 : decode b_Mdl_carry 15 = .ok (.ishl, 1) := by decide +kernel
theorem d_Mdl_carry_16 : decode b_Mdl_carry 16 = .ok (.goto 4, 3) := by decide +kernel
theorem d_Mdl_carry_19 : decode b_Mdl_carry 19 = .ok (.iconst 0, 1) := by decide +kernel
theorem d_Mdl_carry_20 : decode b_Mdl_carry 20 = .ok (.ireturn, 1) := by decide +kernel
theorem d_Mdl_keep_0 : decode b_Mdl_keep 0 = .ok (.aload_n 0, 1) := by decide +kernel
theorem d_Mdl_keep_1 : decode b_Mdl_keep 1 = .ok (.aload_n 0, 1) := by decide +kernel
theorem d_Mdl_keep_2 : decode b_Mdl_keep 2 = .ok (.invokevirtual 66, 3) := by decide +kernel
theorem d_Mdl_keep_5 : decode b_Mdl_keep 5 = .ok (.ifCond .eq 20, 3) := by decide +kernel
theorem d_Mdl_keep_8 : decode b_Mdl_keep 8 = .ok (.iload_n 1, 1) := by decide +kernel
theorem d_Mdl_keep_9 : decode b_Mdl_keep 9 = .ok (.iconst 1, 1) := by decide +kernel
theorem d_Mdl_keep_10 : decode b_Mdl_keep 10 = .ok (.bipush 27, 2) := by decide +kernel
theorem d_Mdl_keep_12 : decode b_Mdl_keep 12 = .ok (.aload_n 0, 1) := by decide +kernel
theorem d_Mdl_keep_13 : decode b_Mdl_keep 13 = .ok (.getfield 63, 3) := by decide +kernel
theorem d_Mdl_keep_16 : decode b_Mdl_keep 16 = .ok (.isub, 1) := by decide +kernel
theorem d_Mdl_keep_17 : decode b_Mdl_keep 17 = .ok (.ishl, 1) := by decide +kernel
theorem d_Mdl_keep_18 : decode b_Mdl_keep 18 = .ok (.if_icmp .lt 7, 3) := by decide +kernel
theorem d_Mdl_keep_21 : decode b_Mdl_keep 21 = .ok (.iconst 1, 1) := by decide +kernel
theorem d_Mdl_keep_22 : decode b_Mdl_keep 22 = .ok (.goto 4, 3) := by decide +kernel
theorem d_Mdl_keep_25 : decode b_Mdl_keep 25 = .ok (.iconst 0, 1) := by decide +kernel
theorem d_Mdl_keep_26 : decode b_Mdl_keep 26 = .ok (.putfield 60, 3) := by decide +kernel
theorem d_Mdl_keep_29 : decode b_Mdl_keep 29 = .ok (.aload_n 0, 1) := by decide +kernel
theorem d_Mdl_keep_30 : decode b_Mdl_keep 30 = .ok (.iload_n 1, 1) := by decide +kernel
theorem d_Mdl_keep_31 : decode b_Mdl_keep 31 = .ok (.aload_n 0, 1) := by decide +kernel
theorem d_Mdl_keep_32 : decode b_Mdl_keep 32 = .ok (.invokevirtual 69, 3) := by decide +kernel
theorem d_Mdl_keep_35 : decode b_Mdl_keep 35 = .ok (.isub, 1) := by decide +kernel
theorem d_Mdl_keep_36 : decode b_Mdl_keep 36 = .ok (.putfield 73, 3) := by decide +kernel
theorem d_Mdl_keep_39 : decode b_Mdl_keep 39 = .ok (.return_, 1) := by decide +kernel
theorem d_Mdl_byteOut_0 : decode b_Mdl_byteOut 0 = .ok (.aload_n 0, 1) := by decide +kernel
theorem d_Mdl_byteOut_1 : decode b_Mdl_byteOut 1 = .ok (.getfield 60, 3) := by decide +kernel
theorem d_Mdl_byteOut_4 : decode b_Mdl_byteOut 4 = .ok (.ifCond .eq 18, 3) := by decide +kernel
theorem d_Mdl_byteOut_7 : decode b_Mdl_byteOut 7 = .ok (.aload_n 0, 1) := by decide +kernel
theorem d_Mdl_byteOut_8 : decode b_Mdl_byteOut 8 = .ok (.getfield 17, 3) := by decide +kernel
theorem d_Mdl_byteOut_11 : decode b_Mdl_byteOut 11 = .ok (.aload_n 0, 1) := by decide +kernel
theorem d_Mdl_byteOut_12 : decode b_Mdl_byteOut 12 = .ok (.getfield 30, 3) := by decide +kernel
theorem d_Mdl_byteOut_15 : decode b_Mdl_byteOut 15 = .ok (.iconst 1, 1) := by decide +kernel
theorem d_Mdl_byteOut_16 : decode b_Mdl_byteOut 16 = .ok (.isub, 1) := by decide +kernel
theorem d_Mdl_byteOut_17 : decode b_Mdl_byteOut 17 = .ok (.dup2, 1) := by decide +kernel
theorem d_Mdl_byteOut_18 : decode b_Mdl_byteOut 18 = .ok (.iaload, 1) := by decide +kernel
theorem d_Mdl_byteOut_19 : decode b_Mdl_byteOut 19 = .ok (.iconst 1, 1) := by decide +kernel
theorem d_Mdl_byteOut_20 : decode b_Mdl_byteOut 20 = .ok (.iadd, 1) := by decide +kernel
theorem d_Mdl_byteOut_21 : decode b_Mdl_byteOut 21 = .ok (.iastore, 1) := by decide +kernel
theorem d_Mdl_byteOut_22 : decode b_Mdl_byteOut 22 = .ok (.aload_n 0, 1) := by decide +kernel
theorem d_Mdl_byteOut_23 : decode b_Mdl_byteOut 23 = .ok (.iconst 0, 1) := by decide +kernel
theorem d_Mdl_byteOut_24 : decode b_Mdl_byteOut 24 = .ok (.putfield 60, 3) := by decide +kernel
theorem d_Mdl_byteOut_27 : decode b_Mdl_byteOut 27 = .ok (.aload_n 0, 1) := by decide +kernel
theorem d_Mdl_byteOut_28 : decode b_Mdl_byteOut 28 = .ok (.aload_n 0, 1) := by decide +kernel
theorem d_Mdl_byteOut_29 : decode b_Mdl_byteOut 29 = .ok (.invokevirtual 56, 3) := by decide +kernel
theorem d_Mdl_byteOut_32 : decode b_Mdl_byteOut 32 = .ok (.ifCond .eq 25, 3) := by decide +kernel
theorem d_Mdl_byteOut_35 : decode b_Mdl_byteOut 35 = .ok (.aload_n 0, 1) := by decide +kernel
theorem d_Mdl_byteOut_36 : decode b_Mdl_byteOut 36 = .ok (.getfield 17, 3) := by decide +kernel
theorem d_Mdl_byteOut_39 : decode b_Mdl_byteOut 39 = .ok (.aload_n 0, 1) := by decide +kernel
theorem d_Mdl_byteOut_40 : decode b_Mdl_byteOut 40 = .ok (.getfield 30, 3) := by decide +kernel
theorem d_Mdl_byteOut_43 : decode b_Mdl_byteOut 43 = .ok (.iconst 1, 1) := by decide +kernel
theorem d_Mdl_byteOut_44 : decode b_Mdl_byteOut 44 = .ok (.isub, 1) := by decide +kernel
theorem d_Mdl_byteOut_45 : decode b_Mdl_byteOut 45 = .ok (.iaload, 1) := by decide +kernel
theorem d_Mdl_byteOut_46 : decode b_Mdl_byteOut 46 = .ok (.sipush 255, 3) := by decide +kernel
theorem d_Mdl_byteOut_49 : decode b_Mdl_byteOut 49 = .ok (.if_icmp .ne 8, 3) := by decide +kernel
theorem d_Mdl_byteOut_52 : decode b_Mdl_byteOut 52 = .ok (.bipush 7, 2) := by decide +kernel
theorem d_Mdl_byteOut_54 : decode b_Mdl_byteOut 54 = .ok (.goto 5, 3) := by decide +kernel
theorem d_Mdl_byteOut_57 : decode b_Mdl_byteOut 57 = .ok (.bipush 8, 2) := by decide +kernel
theorem d_Mdl_byteOut_59 : decode b_Mdl_byteOut 59 = .ok (.putfield 63, 3) := by decide +kernel
theorem d_Mdl_byteOut_62 : decode b_Mdl_byteOut 62 = .ok (.bipush 27, 2) := by decide +kernel
theorem d_Mdl_byteOut_64 : decode b_Mdl_byteOut 64 = .ok (.aload_n 0, 1) := by decide +kernel
theorem d_Mdl_byteOut_65 : decode b_Mdl_byteOut 65 = .ok (.getfield 63, 3) := by decide +kernel
theorem d_Mdl_byteOut_68 : decode b_Mdl_byteOut 68 = .ok (.isub, 1) := by decide +kernel
theorem d_Mdl_byteOut_69 : decode b_Mdl_byteOut 69 = .ok (.istore_n 1, 1) := by decide +kernel
theorem d_Mdl_byteOut_70 : decode b_Mdl_byteOut 70 = .ok (.aload_n 0, 1) := by decide +kernel
theorem d_Mdl_byteOut_71 : decode b_Mdl_byteOut 71 = .ok (.getfield 17, 3) := by decide +kernel
theorem d_Mdl_byteOut_74 : decode b_Mdl_byteOut 74 = .ok (.aload_n 0, 1) := by decide +kernel
theorem d_Mdl_byteOut_75 : decode b_Mdl_byteOut 75 = .ok (.getfield 30, 3) := by decide +kernel
theorem d_Mdl_byteOut_78 : decode b_Mdl_byteOut 78 = .ok (.aload_n 0, 1) := by decide +kernel
theorem d_Mdl_byteOut_79 : decode b_Mdl_byteOut 79 = .ok (.getfield 73, 3) := by decide +kernel
theorem d_Mdl_byteOut_82 : decode b_Mdl_byteOut 82 = .ok (.iload_n 1, 1) := by decide +kernel
theorem d_Mdl_byteOut_83 : decode b_Mdl_byteOut 83 = .ok (.ishr, 1) := by decide +kernel
theorem d_Mdl_byteOut_84 : decode b_Mdl_byteOut 84 = .ok (.sipush 255, 3) := by decide +kernel
theorem d_Mdl_byteOut_87 : decode b_Mdl_byteOut 87 = .ok (.iand, 1) := by decide +kernel
theorem d_Mdl_byteOut_88 : decode b_Mdl_byteOut 88 = .ok (.iastore, 1) := by decide +kernel
theorem d_Mdl_byteOut_89 : decode b_Mdl_byteOut 89 = .ok (.aload_n 0, 1) := by decide +kernel
theorem d_Mdl_byteOut_90 : decode b_Mdl_byteOut 90 = .ok (.aload_n 0, 1) := by decide +kernel
theorem d_Mdl_byteOut_91 : decode b_Mdl_byteOut 91 = .ok (.getfield 73, 3) := by decide +kernel
theorem d_Mdl_byteOut_94 : decode b_Mdl_byteOut 94 = .ok (.iconst 1, 1) := by decide +kernel
theorem d_Mdl_byteOut_95 : decode b_Mdl_byteOut 95 = .ok (.iload_n 1, 1) := by decide +kernel
theorem d_Mdl_byteOut_96 : decode b_Mdl_byteOut 96 = .ok (.ishl, 1) := by decide +kernel
theorem d_Mdl_byteOut_97 : decode b_Mdl_byteOut 97 = .ok (.iconst 1, 1) := by decide +kernel
theorem d_Mdl_byteOut_98 : decode b_Mdl_byteOut 98 = .ok (.isub, 1) := by decide +kernel
theorem d_Mdl_byteOut_99 : decode b_Mdl_byteOut 99 = .ok (.iand, 1) := by decide +kernel
theorem d_Mdl_byteOut_100 : decode b_Mdl_byteOut 100 = .ok (.putfield 73, 3) := by decide +kernel
theorem d_Mdl_byteOut_103 : decode b_Mdl_byteOut 103 = .ok (.aload_n 0, 1) := by decide +kernel
theorem d_Mdl_byteOut_104 : decode b_Mdl_byteOut 104 = .ok (.dup, 1) := by decide +kernel
theorem d_Mdl_byteOut_105 : decode b_Mdl_byteOut 105 = .ok (.getfield 30, 3) := by decide +kernel
theorem d_Mdl_byteOut_108 : decode b_Mdl_byteOut 108 = .ok (.iconst 1, 1) := by decide +kernel
theorem d_Mdl_byteOut_109 : decode b_Mdl_byteOut 109 = .ok (.iadd, 1) := by decide +kernel
theorem d_Mdl_byteOut_110 : decode b_Mdl_byteOut 110 = .ok (.putfield 30, 3) := by decide +kernel
theorem d_Mdl_byteOut_113 : decode b_Mdl_byteOut 113 = .ok (.return_, 1) := by decide +kernel
theorem d_Mdl_push_0 : decode b_Mdl_push 0 = .ok (.aload_n 0, 1) := by decide +kernel
theorem d_Mdl_push_1 : decode b_Mdl_push 1 = .ok (.aload_n 0, 1) := by decide +kernel
theorem d_Mdl_push_2 : decode b_Mdl_push 2 = .ok (.getfield 73, 3) := by decide +kernel
theorem d_Mdl_push_5 : decode b_Mdl_push 5 = .ok (.aload_n 0, 1) := by decide +kernel
theorem d_Mdl_push_6 : decode b_Mdl_push 6 = .ok (.getfield 63, 3) := by decide +kernel
theorem d_Mdl_push_9 : decode b_Mdl_push 9 = .ok (.ishl, 1) := by decide +kernel
theorem d_Mdl_push_10 : decode b_Mdl_push 10 = .ok (.putfield 73, 3) := by decide +kernel
theorem d_Mdl_push_13 : decode b_Mdl_push 13 = .ok (.aload_n 0, 1) := by decide +kernel
theorem d_Mdl_push_14 : decode b_Mdl_push 14 = .ok (.invokevirtual 76, 3) := by decide +kernel
theorem d_Mdl_push_17 : decode b_Mdl_push 17 = .ok (.return_, 1) := by decide +kernel
theorem d_Mdl_writeCoded_0 : decode b_Mdl_writeCoded 0 = .ok (.aload_n 0, 1) := by decide +kernel
theorem d_Mdl_writeCoded_1 : decode b_Mdl_writeCoded 1 = .ok (.getfield 7, 3) := by decide +kernel
theorem d_Mdl_writeCoded_4 : decode b_Mdl_writeCoded 4 = .ok (.aload_n 0, 1) := by decide +kernel
theorem d_Mdl_writeCoded_5 : decode b_Mdl_writeCoded 5 = .ok (.getfield 20, 3) := by decide +kernel
theorem d_Mdl_writeCoded_8 : decode b_Mdl_writeCoded 8 = .ok (.iload_n 1, 1) := by decide +kernel
theorem d_Mdl_writeCoded_9 : decode b_Mdl_writeCoded 9 = .ok (.iaload, 1) := by decide +kernel
theorem d_Mdl_writeCoded_10 : decode b_Mdl_writeCoded 10 = .ok (.iaload, 1) := by decide +kernel
theorem d_Mdl_writeCoded_11 : decode b_Mdl_writeCoded 11 = .ok (.istore_n 3, 1) := by decide +kernel
theorem d_Mdl_writeCoded_12 : decode b_Mdl_writeCoded 12 = .ok (.iload_n 2, 1) := by decide +kernel
theorem d_Mdl_writeCoded_13 : decode b_Mdl_writeCoded 13 = .ok (.aload_n 0, 1) := by decide +kernel
theorem d_Mdl_writeCoded_14 : decode b_Mdl_writeCoded 14 = .ok (.getfield 23, 3) := by decide +kernel
theorem d_Mdl_writeCoded_17 : decode b_Mdl_writeCoded 17 = .ok (.iload_n 1, 1) := by decide +kernel
theorem d_Mdl_writeCoded_18 : decode b_Mdl_writeCoded 18 = .ok (.iaload, 1) := by decide +kernel
theorem d_Mdl_writeCoded_19 : decode b_Mdl_writeCoded 19 = .ok (.if_icmp .ne 7, 3) := by decide +kernel
theorem d_Mdl_writeCoded_22 : decode b_Mdl_writeCoded 22 = .ok (.iconst 1, 1) := by decide +kernel
theorem d_Mdl_writeCoded_23 : decode b_Mdl_writeCoded 23 = .ok (.goto 4, 3) := by decide +kernel
theorem d_Mdl_writeCoded_26 : decode b_Mdl_writeCoded 26 = .ok (.iconst 0, 1) := by decide +kernel
theorem d_Mdl_writeCoded_27 : decode b_Mdl_writeCoded 27 = .ok (.istore 4, 2) := by decide +kernel
theorem d_Mdl_writeCoded_29 : decode b_Mdl_writeCoded 29 = .ok (.aload_n 0, 1) := by decide +kernel
theorem d_Mdl_writeCoded_30 : decode b_Mdl_writeCoded 30 = .ok (.aload_n 0, 1) := by decide +kernel
theorem d_Mdl_writeCoded_31 : decode b_Mdl_writeCoded 31 = .ok (.getfield 79, 3) := by decide +kernel
theorem d_Mdl_writeCoded_34 : decode b_Mdl_writeCoded 34 = .ok (.iload_n 3, 1) := by decide +kernel
theorem d_Mdl_writeCoded_35 : decode b_Mdl_writeCoded 35 = .ok (.isub, 1) := by decide +kernel
theorem d_Mdl_writeCoded_36 : decode b_Mdl_writeCoded 36 = .ok (.putfield 79, 3) := by decide +kernel
theorem d_Mdl_writeCoded_39 : decode b_Mdl_writeCoded 39 = .ok (.aload_n 0, 1) := by decide +kernel
theorem d_Mdl_writeCoded_40 : decode b_Mdl_writeCoded 40 = .ok (.getfield 79, 3) := by decide +kernel
theorem d_Mdl_writeCoded_43 : decode b_Mdl_writeCoded 43 = .ok (.iload_n 3, 1) := by decide +kernel
theorem d_Mdl_writeCoded_44 : decode b_Mdl_writeCoded 44 = .ok (.if_icmp .ge 7, 3) := by decide +kernel
theorem d_Mdl_writeCoded_47 : decode b_Mdl_writeCoded 47 = .ok (.iconst 1, 1) := by decide +kernel
theorem d_Mdl_writeCoded_48 : decode b_Mdl_writeCoded 48 = .ok (.goto 4, 3) := by decide +kernel
theorem d_Mdl_writeCoded_51 : decode b_Mdl_writeCoded 51 = .ok (.iconst 0, 1) := by decide +kernel
theorem d_Mdl_writeCoded_52 : decode b_Mdl_writeCoded 52 = .ok (.istore 5, 2) := by decide +kernel
theorem d_Mdl_writeCoded_54 : decode b_Mdl_writeCoded 54 = .ok (.iload 4, 2) := by decide +kernel
theorem d_Mdl_writeCoded_56 : decode b_Mdl_writeCoded 56 = .ok (.ifCond .eq 16, 3) := by decide +kernel
theorem d_Mdl_writeCoded_59 : decode b_Mdl_writeCoded 59 = .ok (.aload_n 0, 1) := by decide +kernel
theorem d_Mdl_writeCoded_60 : decode b_Mdl_writeCoded 60 = .ok (.getfield 79, 3) := by decide +kernel
theorem d_Mdl_writeCoded_63 : decode b_Mdl_writeCoded 63 = .ok (.ldc 52, 2) := by decide +kernel
theorem d_Mdl_writeCoded_65 : decode b_Mdl_writeCoded 65 = .ok (.if_icmp .lt 7, 3) := by decide +kernel
theorem d_Mdl_writeCoded_68 : decode b_Mdl_writeCoded 68 = .ok (.iconst 1, 1) := by decide +kernel
theorem d_Mdl_writeCoded_69 : decode b_Mdl_writeCoded 69 = .ok (.goto 4, 3) := by decide +kernel
theorem d_Mdl_writeCoded_72 : decode b_Mdl_writeCoded 72 = .ok (.iconst 0, 1) := by decide +kernel
theorem d_Mdl_writeCoded_73 : decode b_Mdl_writeCoded 73 = .ok (.istore 6, 2) := by decide +kernel
theorem d_Mdl_writeCoded_75 : decode b_Mdl_writeCoded 75 = .ok (.iload 6, 2) := by decide +kernel
theorem d_Mdl_writeCoded_77 : decode b_Mdl_writeCoded 77 = .ok (.ifCond .ne 10, 3) := by decide +kernel
theorem d_Mdl_writeCoded_80 : decode b_Mdl_writeCoded 80 = .ok (.iload 4, 2) := by decide +kernel
theorem d_Mdl_writeCoded_82 : decode b_Mdl_writeCoded 82 = .ok (.iload 5, 2) := by decide +kernel
theorem d_Mdl_writeCoded_84 : decode b_Mdl_writeCoded 84 = .ok (.if_icmp .eq 21, 3) := by decide +kernel
theorem d_Mdl_writeCoded_87 : decode b_Mdl_writeCoded 87 = .ok (.aload_n 0, 1) := by decide +kernel
theorem d_Mdl_writeCoded_88 : decode b_Mdl_writeCoded 88 = .ok (.aload_n 0, 1) := by decide +kernel
theorem d_Mdl_writeCoded_89 : decode b_Mdl_writeCoded 89 = .ok (.getfield 73, 3) := by decide +kernel
theorem d_Mdl_writeCoded_92 : decode b_Mdl_writeCoded 92 = .ok (.aload_n 0, 1) := by decide +kernel
theorem d_Mdl_writeCoded_93 : decode b_Mdl_writeCoded 93 = .ok (.invokevirtual 69, 3) := by decide +kernel
theorem d_Mdl_writeCoded_96 : decode b_Mdl_writeCoded 96 = .ok (.iadd, 1) := by decide +kernel
theorem d_Mdl_writeCoded_97 : decode b_Mdl_writeCoded 97 = .ok (.iload_n 3, 1) := by decide +kernel
theorem d_Mdl_writeCoded_98 : decode b_Mdl_writeCoded 98 = .ok (.iadd, 1) := by decide +kernel
theorem d_Mdl_writeCoded_99 : decode b_Mdl_writeCoded 99 = .ok (.invokevirtual 82, 3) := by decide +kernel
theorem d_Mdl_writeCoded_102 : decode b_Mdl_writeCoded 102 = .ok (.goto 8, 3) := by decide +kernel
theorem d_Mdl_writeCoded_105 : decode b_Mdl_writeCoded 105 = .ok (.aload_n 0, 1) := by decide +kernel
theorem d_Mdl_writeCoded_106 : decode b_Mdl_writeCoded 106 = .ok (.iload_n 3, 1) := by decide +kernel
theorem d_Mdl_writeCoded_107 : decode b_Mdl_writeCoded 107 = .ok (.putfield 79, 3) := by decide +kernel
theorem d_Mdl_writeCoded_110 : decode b_Mdl_writeCoded 110 = .ok (.iload 6, 2) := by decide +kernel
theorem d_Mdl_writeCoded_112 : decode b_Mdl_writeCoded 112 = .ok (.ifCond .eq 4, 3) := by decide +kernel
theorem d_Mdl_writeCoded_115 : decode b_Mdl_writeCoded 115 = .ok (.return_, 1) := by decide +kernel
theorem d_Mdl_writeCoded_116 : decode b_Mdl_writeCoded 116 = .ok (.aload_n 0, 1) := by decide +kernel
theorem d_Mdl_writeCoded_117 : decode b_Mdl_writeCoded 117 = .ok (.iload_n 1, 1) := by decide +kernel
theorem d_Mdl_writeCoded_118 : decode b_Mdl_writeCoded 118 = .ok (.iload 4, 2) := by decide +kernel
theorem d_Mdl_writeCoded_120 : decode b_Mdl_writeCoded 120 = .ok (.invokevirtual 86, 3) := by decide +kernel
theorem d_Mdl_writeCoded_123 : decode b_Mdl_writeCoded 123 = .ok (.aload_n 0, 1) := by decide +kernel
theorem d_Mdl_writeCoded_124 : decode b_Mdl_writeCoded 124 = .ok (.getfield 79, 3) := by decide +kernel
theorem d_Mdl_writeCoded_127 : decode b_Mdl_writeCoded 127 = .ok (.invokestatic 90, 3) := by decide +kernel
theorem d_Mdl_writeCoded_130 : decode b_Mdl_writeCoded 130 = .ok (.istore 7, 2) := by decide +kernel
theorem d_Mdl_writeCoded_132 : decode b_Mdl_writeCoded 132 = .ok (.aload_n 0, 1) := by decide +kernel
theorem d_Mdl_writeCoded_133 : decode b_Mdl_writeCoded 133 = .ok (.aload_n 0, 1) := by decide +kernel
theorem d_Mdl_writeCoded_134 : decode b_Mdl_writeCoded 134 = .ok (.getfield 79, 3) := by decide +kernel
theorem d_Mdl_writeCoded_137 : decode b_Mdl_writeCoded 137 = .ok (.iload 7, 2) := by decide +kernel
theorem d_Mdl_writeCoded_139 : decode b_Mdl_writeCoded 139 = .ok (.ishl, 1) := by decide +kernel
theorem d_Mdl_writeCoded_140 : decode b_Mdl_writeCoded 140 = .ok (.putfield 79, 3) := by decide +kernel
theorem d_Mdl_writeCoded_143 : decode b_Mdl_writeCoded 143 = .ok (.iload 7, 2) := by decide +kernel
theorem d_Mdl_writeCoded_145 : decode b_Mdl_writeCoded 145 = .ok (.ifCond .le 66, 3) := by decide +kernel
theorem d_Mdl_writeCoded_148 : decode b_Mdl_writeCoded 148 = .ok (.iload 7, 2) := by decide +kernel
theorem d_Mdl_writeCoded_150 : decode b_Mdl_writeCoded 150 = .ok (.aload_n 0, 1) := by decide +kernel
theorem d_Mdl_writeCoded_151 : decode b_Mdl_writeCoded 151 = .ok (.getfield 63, 3) := by decide +kernel
theorem d_Mdl_writeCoded_154 : decode b_Mdl_writeCoded 154 = .ok (.if_icmp .ge 8, 3) := by decide +kernel
theorem d_Mdl_writeCoded_157 : decode b_Mdl_writeCoded 157 = .ok (.iload 7, 2) := by decide +kernel
theorem d_Mdl_writeCoded_159 : decode b_Mdl_writeCoded 159 = .ok (.goto 7, 3) := by decide +kernel
theorem d_Mdl_writeCoded_162 : decode b_Mdl_writeCoded 162 = .ok (.aload_n 0, 1) := by decide +kernel
theorem d_Mdl_writeCoded_163 : decode b_Mdl_writeCoded 163 = .ok (.getfield 63, 3) := by decide +kernel
theorem d_Mdl_writeCoded_166 : decode b_Mdl_writeCoded 166 = .ok (.istore 8, 2) := by decide +kernel
theorem d_Mdl_writeCoded_168 : decode b_Mdl_writeCoded 168 = .ok (.aload_n 0, 1) := by decide +kernel
theorem d_Mdl_writeCoded_169 : decode b_Mdl_writeCoded 169 = .ok (.aload_n 0, 1) := by decide +kernel
theorem d_Mdl_writeCoded_170 : decode b_Mdl_writeCoded 170 = .ok (.getfield 73, 3) := by decide +kernel
theorem d_Mdl_writeCoded_173 : decode b_Mdl_writeCoded 173 = .ok (.iload 8, 2) := by decide +kernel
theorem d_Mdl_writeCoded_175 : decode b_Mdl_writeCoded 175 = .ok (.ishl, 1) := by decide +kernel
theorem d_Mdl_writeCoded_176 : decode b_Mdl_writeCoded 176 = .ok (.putfield 73, 3) := by decide +kernel
theorem d_Mdl_writeCoded_179 : decode b_Mdl_writeCoded 179 = .ok (.iload 7, 2) := by decide +kernel
theorem d_Mdl_writeCoded_181 : decode b_Mdl_writeCoded 181 = .ok (.iload 8, 2) := by decide +kernel
theorem d_Mdl_writeCoded_183 : decode b_Mdl_writeCoded 183 = .ok (.isub, 1) := by decide +kernel
theorem d_Mdl_writeCoded_184 : decode b_Mdl_writeCoded 184 = .ok (.istore 7, 2) := by decide +kernel
theorem d_Mdl_writeCoded_186 : decode b_Mdl_writeCoded 186 = .ok (.aload_n 0, 1) := by decide +kernel
theorem d_Mdl_writeCoded_187 : decode b_Mdl_writeCoded 187 = .ok (.aload_n 0, 1) := by decide +kernel
theorem d_Mdl_writeCoded_188 : decode b_Mdl_writeCoded 188 = .ok (.getfield 63, 3) := by decide +kernel
theorem d_Mdl_writeCoded_191 : decode b_Mdl_writeCoded 191 = .ok (.iload 8, 2) := by decide +kernel
theorem d_Mdl_writeCoded_193 : decode b_Mdl_writeCoded 193 = .ok (.isub, 1) := by decide +kernel
theorem d_Mdl_writeCoded_194 : decode b_Mdl_writeCoded 194 = .ok (.putfield 63, 3) := by decide +kernel
theorem d_Mdl_writeCoded_197 : decode b_Mdl_writeCoded 197 = .ok (.aload_n 0, 1) := by decide +kernel
theorem d_Mdl_writeCoded_198 : decode b_Mdl_writeCoded 198 = .ok (.getfield 63, 3) := by decide +kernel
theorem d_Mdl_writeCoded_201 : decode b_Mdl_writeCoded 201 = .ok (.ifCond .ne 7, 3) := by decide +kernel
theorem d_Mdl_writeCoded_204 : decode b_Mdl_writeCoded 204 = .ok (.aload_n 0, 1) := by decide +kernel
theorem d_Mdl_writeCoded_205 : decode b_Mdl_writeCoded 205 = .ok (.invokevirtual 76, 3) := by decide +kernel
theorem d_Mdl_writeCoded_208 : decode b_Mdl_writeCoded 208 = .ok (.goto (-65), 3) := by decide +kernel
theorem d_Mdl_writeCoded_211 : decode b_Mdl_writeCoded 211 = .ok (.return_, 1) := by decide +kernel
theorem d_Mdl_writeRaw_0 : decode b_Mdl_writeRaw 0 = .ok (.aload_n 0, 1) := by decide +kernel
theorem d_Mdl_writeRaw_1 : decode b_Mdl_writeRaw 1 = .ok (.getfield 63, 3) := by decide +kernel
theorem d_Mdl_writeRaw_4 : decode b_Mdl_writeRaw 4 = .ok (.ifCond .ne 58, 3) := by decide +kernel
theorem d_Mdl_writeRaw_7 : decode b_Mdl_writeRaw 7 = .ok (.aload_n 0, 1) := by decide +kernel
theorem d_Mdl_writeRaw_8 : decode b_Mdl_writeRaw 8 = .ok (.aload_n 0, 1) := by decide +kernel
theorem d_Mdl_writeRaw_9 : decode b_Mdl_writeRaw 9 = .ok (.invokevirtual 56, 3) := by decide +kernel
theorem d_Mdl_writeRaw_12 : decode b_Mdl_writeRaw 12 = .ok (.ifCond .eq 25, 3) := by decide +kernel
theorem d_Mdl_writeRaw_15 : decode b_Mdl_writeRaw 15 = .ok (.aload_n 0, 1) := by decide +kernel
theorem d_Mdl_writeRaw_16 : decode b_Mdl_writeRaw 16 = .ok (.getfield 17, 3) := by decide +kernel
theorem d_Mdl_writeRaw_19 : decode b_Mdl_writeRaw 19 = .ok (.aload_n 0, 1) := by decide +kernel
theorem d_Mdl_writeRaw_20 : decode b_Mdl_writeRaw 20 = .ok (.getfield 30, 3) := by decide +kernel
theorem d_Mdl_writeRaw_23 : decode b_Mdl_writeRaw 23 = .ok (.iconst 1, 1) := by decide +kernel
theorem d_Mdl_writeRaw_24 : decode b_Mdl_writeRaw 24 = .ok (.isub, 1) := by decide +kernel
theorem d_Mdl_writeRaw_25 : decode b_Mdl_writeRaw 25 = .ok (.iaload, 1) := by decide +kernel
theorem d_Mdl_writeRaw_26 : decode b_Mdl_writeRaw 26 = .ok (.sipush 255, 3) := by decide +kernel
theorem d_Mdl_writeRaw_29 : decode b_Mdl_writeRaw 29 = .ok (.if_icmp .ne 8, 3) := by decide +kernel
theorem d_Mdl_writeRaw_32 : decode b_Mdl_writeRaw 32 = .ok (.bipush 7, 2) := by decide +kernel
theorem d_Mdl_writeRaw_34 : decode b_Mdl_writeRaw 34 = .ok (.goto 5, 3) := by decide +kernel
theorem d_Mdl_writeRaw_37 : decode b_Mdl_writeRaw 37 = .ok (.bipush 8, 2) := by decide +kernel
theorem d_Mdl_writeRaw_39 : decode b_Mdl_writeRaw 39 = .ok (.putfield 63, 3) := by decide +kernel
theorem d_Mdl_writeRaw_42 : decode b_Mdl_writeRaw 42 = .ok (.aload_n 0, 1) := by decide +kernel
theorem d_Mdl_writeRaw_43 : decode b_Mdl_writeRaw 43 = .ok (.getfield 17, 3) := by decide +kernel
theorem d_Mdl_writeRaw_46 : decode b_Mdl_writeRaw 46 = .ok (.aload_n 0, 1) := by decide +kernel
theorem d_Mdl_writeRaw_47 : decode b_Mdl_writeRaw 47 = .ok (.getfield 30, 3) := by decide +kernel
theorem d_Mdl_writeRaw_50 : decode b_Mdl_writeRaw 50 = .ok (.iconst 0, 1) := by decide +kernel
theorem d_Mdl_writeRaw_51 : decode b_Mdl_writeRaw 51 = .ok (.iastore, 1) := by decide +kernel
theorem d_Mdl_writeRaw_52 : decode b_Mdl_writeRaw 52 = .ok (.aload_n 0, 1) := by decide +kernel
theorem d_Mdl_writeRaw_53 : decode b_Mdl_writeRaw 53 = .ok (.dup, 1) := by decide +kernel
theorem d_Mdl_writeRaw_54 : decode b_Mdl_writeRaw 54 = .ok (.getfield 30, 3) := by decide +kernel
theorem d_Mdl_writeRaw_57 : decode b_Mdl_writeRaw 57 = .ok (.iconst 1, 1) := by decide +kernel
theorem d_Mdl_writeRaw_58 : decode b_Mdl_writeRaw 58 = .ok (.iadd, 1) := by decide +kernel
theorem d_Mdl_writeRaw_59 : decode b_Mdl_writeRaw 59 = .ok (.putfield 30, 3) := by decide +kernel
theorem d_Mdl_writeRaw_62 : decode b_Mdl_writeRaw 62 = .ok (.aload_n 0, 1) := by decide +kernel
theorem d_Mdl_writeRaw_63 : decode b_Mdl_writeRaw 63 = .ok (.dup, 1) := by decide +kernel
theorem d_Mdl_writeRaw_64 : decode b_Mdl_writeRaw 64 = .ok (.getfield 63, 3) := by decide +kernel
theorem d_Mdl_writeRaw_67 : decode b_Mdl_writeRaw 67 = .ok (.iconst 1, 1) := by decide +kernel
theorem d_Mdl_writeRaw_68 : decode b_Mdl_writeRaw 68 = .ok (.isub, 1) := by decide +kernel
theorem d_Mdl_writeRaw_69 : decode b_Mdl_writeRaw 69 = .ok (.putfield 63, 3) := by decide +kernel
theorem d_Mdl_writeRaw_72 : decode b_Mdl_writeRaw 72 = .ok (.aload_n 0, 1) := by decide +kernel
theorem d_Mdl_writeRaw_73 : decode b_Mdl_writeRaw 73 = .ok (.getfield 17, 3) := by decide +kernel
theorem d_Mdl_writeRaw_76 : decode b_Mdl_writeRaw 76 = .ok (.aload_n 0, 1) := by decide +kernel
theorem d_Mdl_writeRaw_77 : decode b_Mdl_writeRaw 77 = .ok (.getfield 30, 3) := by decide +kernel
theorem d_Mdl_writeRaw_80 : decode b_Mdl_writeRaw 80 = .ok (.iconst 1, 1) := by decide +kernel
theorem d_Mdl_writeRaw_81 : decode b_Mdl_writeRaw 81 = .ok (.isub, 1) := by decide +kernel
theorem d_Mdl_writeRaw_82 : decode b_Mdl_writeRaw 82 = .ok (.aload_n 0, 1) := by decide +kernel
theorem d_Mdl_writeRaw_83 : decode b_Mdl_writeRaw 83 = .ok (.getfield 17, 3) := by decide +kernel
theorem d_Mdl_writeRaw_86 : decode b_Mdl_writeRaw 86 = .ok (.aload_n 0, 1) := by decide +kernel
theorem d_Mdl_writeRaw_87 : decode b_Mdl_writeRaw 87 = .ok (.getfield 30, 3) := by decide +kernel
theorem d_Mdl_writeRaw_90 : decode b_Mdl_writeRaw 90 = .ok (.iconst 1, 1) := by decide +kernel
theorem d_Mdl_writeRaw_91 : decode b_Mdl_writeRaw 91 = .ok (.isub, 1) := by decide +kernel
theorem d_Mdl_writeRaw_92 : decode b_Mdl_writeRaw 92 = .ok (.iaload, 1) := by decide +kernel
theorem d_Mdl_writeRaw_93 : decode b_Mdl_writeRaw 93 = .ok (.iload_n 1, 1) := by decide +kernel
theorem d_Mdl_writeRaw_94 : decode b_Mdl_writeRaw 94 = .ok (.aload_n 0, 1) := by decide +kernel
theorem d_Mdl_writeRaw_95 : decode b_Mdl_writeRaw 95 = .ok (.getfield 63, 3) := by decide +kernel
theorem d_Mdl_writeRaw_98 : decode b_Mdl_writeRaw 98 = .ok (.ishl, 1) := by decide +kernel
theorem d_Mdl_writeRaw_99 : decode b_Mdl_writeRaw 99 = .ok (.ior, 1) := by decide +kernel
end
section
theorem d_Mdl_writeRaw_100 : decode b_Mdl_writeRaw 100 = .ok (.iastore, 1) := by decide +kernel
theorem d_Mdl_writeRaw_101 : decode b_Mdl_writeRaw 101 = .ok (.return_, 1) := by decide +kernel
theorem d_Mdl_open_0 : decode b_Mdl_open 0 = .ok (.aload_n 0, 1) := by decide +kernel
theorem d_Mdl_open_1 : decode b_Mdl_open 1 = .ok (.aload_n 0, 1) := by decide +kernel
theorem d_Mdl_open_2 : decode b_Mdl_open 2 = .ok (.getfield 33, 3) := by decide +kernel
theorem d_Mdl_open_5 : decode b_Mdl_open 5 = .ok (.iconst 0, 1) := by decide +kernel
theorem d_Mdl_open_6 : decode b_Mdl_open 6 = .ok (.iconst 0, 1) := by decide +kernel
theorem d_Mdl_open_7 : decode b_Mdl_open 7 = .ok (.invokevirtual 44, 3) := by decide +kernel
theorem d_Mdl_open_10 : decode b_Mdl_open 10 = .ok (.ifCond .eq 4, 3) := by decide +kernel
theorem d_Mdl_open_13 : decode b_Mdl_open 13 = .ok (.return_, 1) := by decide +kernel
theorem d_Mdl_open_14 : decode b_Mdl_open 14 = .ok (.aload_n 0, 1) := by decide +kernel
theorem d_Mdl_open_15 : decode b_Mdl_open 15 = .ok (.iconst 1, 1) := by decide +kernel
theorem d_Mdl_open_16 : decode b_Mdl_open 16 = .ok (.putfield 33, 3) := by decide +kernel
theorem d_Mdl_open_19 : decode b_Mdl_open 19 = .ok (.aload_n 0, 1) := by decide +kernel
theorem d_Mdl_open_20 : decode b_Mdl_open 20 = .ok (.iconst 0, 1) := by decide +kernel
theorem d_Mdl_open_21 : decode b_Mdl_open 21 = .ok (.putfield 37, 3) := by decide +kernel
theorem d_Mdl_open_24 : decode b_Mdl_open 24 = .ok (.aload_n 0, 1) := by decide +kernel
theorem d_Mdl_open_25 : decode b_Mdl_open 25 = .ok (.iload_n 1, 1) := by decide +kernel
theorem d_Mdl_open_26 : decode b_Mdl_open 26 = .ok (.putfield 93, 3) := by decide +kernel
theorem d_Mdl_open_29 : decode b_Mdl_open 29 = .ok (.aload_n 0, 1) := by decide +kernel
theorem d_Mdl_open_30 : decode b_Mdl_open 30 = .ok (.aload_n 0, 1) := by decide +kernel
theorem d_Mdl_open_31 : decode b_Mdl_open 31 = .ok (.getfield 30, 3) := by decide +kernel
theorem d_Mdl_open_34 : decode b_Mdl_open 34 = .ok (.putfield 53, 3) := by decide +kernel
theorem d_Mdl_open_37 : decode b_Mdl_open 37 = .ok (.aload_n 0, 1) := by decide +kernel
theorem d_Mdl_open_38 : decode b_Mdl_open 38 = .ok (.iconst 0, 1) := by decide +kernel
theorem d_Mdl_open_39 : decode b_Mdl_open 39 = .ok (.putfield 73, 3) := by decide +kernel
theorem d_Mdl_open_42 : decode b_Mdl_open 42 = .ok (.aload_n 0, 1) := by decide +kernel
theorem d_Mdl_open_43 : decode b_Mdl_open 43 = .ok (.iconst 0, 1) := by decide +kernel
theorem d_Mdl_open_44 : decode b_Mdl_open 44 = .ok (.putfield 60, 3) := by decide +kernel
theorem d_Mdl_open_47 : decode b_Mdl_open 47 = .ok (.aload_n 0, 1) := by decide +kernel
theorem d_Mdl_open_48 : decode b_Mdl_open 48 = .ok (.ldc 52, 2) := by decide +kernel
theorem d_Mdl_open_50 : decode b_Mdl_open 50 = .ok (.putfield 79, 3) := by decide +kernel
theorem d_Mdl_open_53 : decode b_Mdl_open 53 = .ok (.aload_n 0, 1) := by decide +kernel
theorem d_Mdl_open_54 : decode b_Mdl_open 54 = .ok (.aload_n 0, 1) := by decide +kernel
theorem d_Mdl_open_55 : decode b_Mdl_open 55 = .ok (.getfield 93, 3) := by decide +kernel
theorem d_Mdl_open_58 : decode b_Mdl_open 58 = .ok (.ifCond .eq 7, 3) := by decide +kernel
theorem d_Mdl_open_61 : decode b_Mdl_open 61 = .ok (.iconst 0, 1) := by decide +kernel
theorem d_Mdl_open_62 : decode b_Mdl_open 62 = .ok (.goto 5, 3) := by decide +kernel
theorem d_Mdl_open_65 : decode b_Mdl_open 65 = .ok (.bipush 12, 2) := by decide +kernel
theorem d_Mdl_open_67 : decode b_Mdl_open 67 = .ok (.putfield 63, 3) := by decide +kernel
theorem d_Mdl_open_70 : decode b_Mdl_open 70 = .ok (.return_, 1) := by decide +kernel
theorem d_Mdl_write_0 : decode b_Mdl_write 0 = .ok (.aload_n 0, 1) := by decide +kernel
theorem d_Mdl_write_1 : decode b_Mdl_write 1 = .ok (.getfield 93, 3) := by decide +kernel
theorem d_Mdl_write_4 : decode b_Mdl_write 4 = .ok (.ifCond .eq 16, 3) := by decide +kernel
theorem d_Mdl_write_7 : decode b_Mdl_write 7 = .ok (.iload_n 1, 1) := by decide +kernel
theorem d_Mdl_write_8 : decode b_Mdl_write 8 = .ok (.iconst (-1), 1) := by decide +kernel
theorem d_Mdl_write_9 : decode b_Mdl_write 9 = .ok (.if_icmp .eq 7, 3) := by decide +kernel
theorem d_Mdl_write_12 : decode b_Mdl_write 12 = .ok (.iconst 1, 1) := by decide +kernel
theorem d_Mdl_write_13 : decode b_Mdl_write 13 = .ok (.goto 14, 3) := by decide +kernel
theorem d_Mdl_write_16 : decode b_Mdl_write 16 = .ok (.iconst 0, 1) := by decide +kernel
theorem d_Mdl_write_17 : decode b_Mdl_write 17 = .ok (.goto 10, 3) := by decide +kernel
theorem d_Mdl_write_20 : decode b_Mdl_write 20 = .ok (.iload_n 1, 1) := by decide +kernel
theorem d_Mdl_write_21 : decode b_Mdl_write 21 = .ok (.iconst 0, 1) := by decide +kernel
theorem d_Mdl_write_22 : decode b_Mdl_write 22 = .ok (.bipush 18, 2) := by decide +kernel
theorem d_Mdl_write_24 : decode b_Mdl_write 24 = .ok (.invokestatic 40, 3) := by decide +kernel
theorem d_Mdl_write_27 : decode b_Mdl_write 27 = .ok (.istore 5, 2) := by decide +kernel
theorem d_Mdl_write_29 : decode b_Mdl_write 29 = .ok (.aload_n 0, 1) := by decide +kernel
theorem d_Mdl_write_30 : decode b_Mdl_write 30 = .ok (.aload_n 0, 1) := by decide +kernel
theorem d_Mdl_write_31 : decode b_Mdl_write 31 = .ok (.getfield 33, 3) := by decide +kernel
theorem d_Mdl_write_34 : decode b_Mdl_write 34 = .ok (.ifCond .ne 7, 3) := by decide +kernel
theorem d_Mdl_write_37 : decode b_Mdl_write 37 = .ok (.iconst 1, 1) := by decide +kernel
theorem d_Mdl_write_38 : decode b_Mdl_write 38 = .ok (.goto 4, 3) := by decide +kernel
theorem d_Mdl_write_41 : decode b_Mdl_write 41 = .ok (.iconst 0, 1) := by decide +kernel
theorem d_Mdl_write_42 : decode b_Mdl_write 42 = .ok (.iload 5, 2) := by decide +kernel
theorem d_Mdl_write_44 : decode b_Mdl_write 44 = .ok (.ifCond .ne 14, 3) := by decide +kernel
theorem d_Mdl_write_47 : decode b_Mdl_write 47 = .ok (.iload 4, 2) := by decide +kernel
theorem d_Mdl_write_49 : decode b_Mdl_write 49 = .ok (.iconst 1, 1) := by decide +kernel
theorem d_Mdl_write_50 : decode b_Mdl_write 50 = .ok (.bipush 64, 2) := by decide +kernel
theorem d_Mdl_write_52 : decode b_Mdl_write 52 = .ok (.invokestatic 40, 3) := by decide +kernel
theorem d_Mdl_write_55 : decode b_Mdl_write 55 = .ok (.ifCond .eq 7, 3) := by decide +kernel
theorem d_Mdl_write_58 : decode b_Mdl_write 58 = .ok (.iconst 1, 1) := by decide +kernel
theorem d_Mdl_write_59 : decode b_Mdl_write 59 = .ok (.goto 4, 3) := by decide +kernel
theorem d_Mdl_write_62 : decode b_Mdl_write 62 = .ok (.iconst 0, 1) := by decide +kernel
theorem d_Mdl_write_63 : decode b_Mdl_write 63 = .ok (.aload_n 0, 1) := by decide +kernel
theorem d_Mdl_write_64 : decode b_Mdl_write 64 = .ok (.getfield 30, 3) := by decide +kernel
theorem d_Mdl_write_67 : decode b_Mdl_write 67 = .ok (.ldc 96, 2) := by decide +kernel
theorem d_Mdl_write_69 : decode b_Mdl_write 69 = .ok (.if_icmp .le 7, 3) := by decide +kernel
theorem d_Mdl_write_72 : decode b_Mdl_write 72 = .ok (.iconst 1, 1) := by decide +kernel
theorem d_Mdl_write_73 : decode b_Mdl_write 73 = .ok (.goto 4, 3) := by decide +kernel
theorem d_Mdl_write_76 : decode b_Mdl_write 76 = .ok (.iconst 0, 1) := by decide +kernel
theorem d_Mdl_write_77 : decode b_Mdl_write 77 = .ok (.invokevirtual 44, 3) := by decide +kernel
theorem d_Mdl_write_80 : decode b_Mdl_write 80 = .ok (.ifCond .eq 5, 3) := by decide +kernel
theorem d_Mdl_write_83 : decode b_Mdl_write 83 = .ok (.iconst 0, 1) := by decide +kernel
theorem d_Mdl_write_84 : decode b_Mdl_write 84 = .ok (.ireturn, 1) := by decide +kernel
theorem d_Mdl_write_85 : decode b_Mdl_write 85 = .ok (.iload 4, 2) := by decide +kernel
theorem d_Mdl_write_87 : decode b_Mdl_write 87 = .ok (.iconst 1, 1) := by decide +kernel
theorem d_Mdl_write_88 : decode b_Mdl_write 88 = .ok (.isub, 1) := by decide +kernel
theorem d_Mdl_write_89 : decode b_Mdl_write 89 = .ok (.istore 6, 2) := by decide +kernel
theorem d_Mdl_write_91 : decode b_Mdl_write 91 = .ok (.iload 6, 2) := by decide +kernel
theorem d_Mdl_write_93 : decode b_Mdl_write 93 = .ok (.ifCond .lt 41, 3) := by decide +kernel
theorem d_Mdl_write_96 : decode b_Mdl_write 96 = .ok (.lload_n 2, 1) := by decide +kernel
theorem d_Mdl_write_97 : decode b_Mdl_write 97 = .ok (.iload 6, 2) := by decide +kernel
theorem d_Mdl_write_99 : decode b_Mdl_write 99 = .ok (.lshr, 1) := by decide +kernel
theorem d_Mdl_write_100 : decode b_Mdl_write 100 = .ok (.lconst 1, 1) := by decide +kernel
theorem d_Mdl_write_101 : decode b_Mdl_write 101 = .ok (.land, 1) := by decide +kernel
theorem d_Mdl_write_102 : decode b_Mdl_write 102 = .ok (.l2i, 1) := by decide +kernel
theorem d_Mdl_write_103 : decode b_Mdl_write 103 = .ok (.istore 7, 2) := by decide +kernel
theorem d_Mdl_write_105 : decode b_Mdl_write 105 = .ok (.aload_n 0, 1) := by decide +kernel
theorem d_Mdl_write_106 : decode b_Mdl_write 106 = .ok (.getfield 93, 3) := by decide +kernel
theorem d_Mdl_write_109 : decode b_Mdl_write 109 = .ok (.ifCond .eq 12, 3) := by decide +kernel
theorem d_Mdl_write_112 : decode b_Mdl_write 112 = .ok (.aload_n 0, 1) := by decide +kernel
theorem d_Mdl_write_113 : decode b_Mdl_write 113 = .ok (.iload 7, 2) := by decide +kernel
theorem d_Mdl_write_115 : decode b_Mdl_write 115 = .ok (.invokevirtual 97, 3) := by decide +kernel
theorem d_Mdl_write_118 : decode b_Mdl_write 118 = .ok (.goto 10, 3) := by decide +kernel
theorem d_Mdl_write_121 : decode b_Mdl_write 121 = .ok (.aload_n 0, 1) := by decide +kernel
theorem d_Mdl_write_122 : decode b_Mdl_write 122 = .ok (.iload_n 1, 1) := by decide +kernel
theorem d_Mdl_write_123 : decode b_Mdl_write 123 = .ok (.iload 7, 2) := by decide +kernel
theorem d_Mdl_write_125 : decode b_Mdl_write 125 = .ok (.invokevirtual 100, 3) := by decide +kernel
theorem d_Mdl_write_128 : decode b_Mdl_write 128 = .ok (.iinc 6 (-1), 3) := by decide +kernel
theorem d_Mdl_write_131 : decode b_Mdl_write 131 = .ok (.goto (-40), 3) := by decide +kernel
theorem d_Mdl_write_134 : decode b_Mdl_write 134 = .ok (.aload_n 0, 1) := by decide +kernel
theorem d_Mdl_write_135 : decode b_Mdl_write 135 = .ok (.getfield 30, 3) := by decide +kernel
theorem d_Mdl_write_138 : decode b_Mdl_write 138 = .ok (.aload_n 0, 1) := by decide +kernel
theorem d_Mdl_write_139 : decode b_Mdl_write 139 = .ok (.getfield 53, 3) := by decide +kernel
theorem d_Mdl_write_142 : decode b_Mdl_write 142 = .ok (.isub, 1) := by decide +kernel
theorem d_Mdl_write_143 : decode b_Mdl_write 143 = .ok (.ireturn, 1) := by decide +kernel
theorem d_Mdl_enough_0 : decode b_Mdl_enough 0 = .ok (.aload_n 0, 1) := by decide +kernel
theorem d_Mdl_enough_1 : decode b_Mdl_enough 1 = .ok (.aload_n 0, 1) := by decide +kernel
theorem d_Mdl_enough_2 : decode b_Mdl_enough 2 = .ok (.getfield 33, 3) := by decide +kernel
theorem d_Mdl_enough_5 : decode b_Mdl_enough 5 = .ok (.ifCond .ne 7, 3) := by decide +kernel
theorem d_Mdl_enough_8 : decode b_Mdl_enough 8 = .ok (.iconst 1, 1) := by decide +kernel
theorem d_Mdl_enough_9 : decode b_Mdl_enough 9 = .ok (.goto 4, 3) := by decide +kernel
theorem d_Mdl_enough_12 : decode b_Mdl_enough 12 = .ok (.iconst 0, 1) := by decide +kernel
theorem d_Mdl_enough_13 : decode b_Mdl_enough 13 = .ok (.iconst 0, 1) := by decide +kernel
theorem d_Mdl_enough_14 : decode b_Mdl_enough 14 = .ok (.iconst 0, 1) := by decide +kernel
theorem d_Mdl_enough_15 : decode b_Mdl_enough 15 = .ok (.invokevirtual 44, 3) := by decide +kernel
theorem d_Mdl_enough_18 : decode b_Mdl_enough 18 = .ok (.ifCond .eq 5, 3) := by decide +kernel
theorem d_Mdl_enough_21 : decode b_Mdl_enough 21 = .ok (.iconst 0, 1) := by decide +kernel
theorem d_Mdl_enough_22 : decode b_Mdl_enough 22 = .ok (.ireturn, 1) := by decide +kernel
theorem d_Mdl_enough_23 : decode b_Mdl_enough 23 = .ok (.aload_n 0, 1) := by decide +kernel
theorem d_Mdl_enough_24 : decode b_Mdl_enough 24 = .ok (.getfield 30, 3) := by decide +kernel
theorem d_Mdl_enough_27 : decode b_Mdl_enough 27 = .ok (.aload_n 0, 1) := by decide +kernel
theorem d_Mdl_enough_28 : decode b_Mdl_enough 28 = .ok (.getfield 53, 3) := by decide +kernel
theorem d_Mdl_enough_31 : decode b_Mdl_enough 31 = .ok (.isub, 1) := by decide +kernel
theorem d_Mdl_enough_32 : decode b_Mdl_enough 32 = .ok (.aload_n 0, 1) := by decide +kernel
theorem d_Mdl_enough_33 : decode b_Mdl_enough 33 = .ok (.getfield 93, 3) := by decide +kernel
theorem d_Mdl_enough_36 : decode b_Mdl_enough 36 = .ok (.ifCond .eq 7, 3) := by decide +kernel
theorem d_Mdl_enough_39 : decode b_Mdl_enough 39 = .ok (.iconst 0, 1) := by decide +kernel
theorem d_Mdl_enough_40 : decode b_Mdl_enough 40 = .ok (.goto 4, 3) := by decide +kernel
theorem d_Mdl_enough_43 : decode b_Mdl_enough 43 = .ok (.iconst 5, 1) := by decide +kernel
theorem d_Mdl_enough_44 : decode b_Mdl_enough 44 = .ok (.iadd, 1) := by decide +kernel
theorem d_Mdl_enough_45 : decode b_Mdl_enough 45 = .ok (.ireturn, 1) := by decide +kernel
theorem d_Mdl_close_0 : decode b_Mdl_close 0 = .ok (.aload_n 0, 1) := by decide +kernel
theorem d_Mdl_close_1 : decode b_Mdl_close 1 = .ok (.aload_n 0, 1) := by decide +kernel
theorem d_Mdl_close_2 : decode b_Mdl_close 2 = .ok (.getfield 33, 3) := by decide +kernel
theorem d_Mdl_close_5 : decode b_Mdl_close 5 = .ok (.ifCond .ne 7, 3) := by decide +kernel
theorem d_Mdl_close_8 : decode b_Mdl_close 8 = .ok (.iconst 1, 1) := by decide +kernel
theorem d_Mdl_close_9 : decode b_Mdl_close 9 = .ok (.goto 4, 3) := by decide +kernel
theorem d_Mdl_close_12 : decode b_Mdl_close 12 = .ok (.iconst 0, 1) := by decide +kernel
theorem d_Mdl_close_13 : decode b_Mdl_close 13 = .ok (.iload_n 1, 1) := by decide +kernel
theorem d_Mdl_close_14 : decode b_Mdl_close 14 = .ok (.iconst 0, 1) := by decide +kernel
theorem d_Mdl_close_15 : decode b_Mdl_close 15 = .ok (.iconst 1, 1) := by decide +kernel
theorem d_Mdl_close_16 : decode b_Mdl_close 16 = .ok (.invokestatic 40, 3) := by decide +kernel
theorem d_Mdl_close_19 : decode b_Mdl_close 19 = .ok (.iconst 0, 1) := by decide +kernel
theorem d_Mdl_close_20 : decode b_Mdl_close 20 = .ok (.invokevirtual 44, 3) := by decide +kernel
theorem d_Mdl_close_23 : decode b_Mdl_close 23 = .ok (.ifCond .eq 5, 3) := by decide +kernel
theorem d_Mdl_close_26 : decode b_Mdl_close 26 = .ok (.iconst 0, 1) := by decide +kernel
theorem d_Mdl_close_27 : decode b_Mdl_close 27 = .ok (.ireturn, 1) := by decide +kernel
theorem d_Mdl_close_28 : decode b_Mdl_close 28 = .ok (.aload_n 0, 1) := by decide +kernel
theorem d_Mdl_close_29 : decode b_Mdl_close 29 = .ok (.getfield 93, 3) := by decide +kernel
theorem d_Mdl_close_32 : decode b_Mdl_close 32 = .ok (.ifCond .eq 27, 3) := by decide +kernel
theorem d_Mdl_close_35 : decode b_Mdl_close 35 = .ok (.iconst 0, 1) := by decide +kernel
theorem d_Mdl_close_36 : decode b_Mdl_close 36 = .ok (.istore_n 2, 1) := by decide +kernel
theorem d_Mdl_close_37 : decode b_Mdl_close 37 = .ok (.aload_n 0, 1) := by decide +kernel
theorem d_Mdl_close_38 : decode b_Mdl_close 38 = .ok (.getfield 63, 3) := by decide +kernel
theorem d_Mdl_close_41 : decode b_Mdl_close 41 = .ok (.ifCond .le 15, 3) := by decide +kernel
theorem d_Mdl_close_44 : decode b_Mdl_close 44 = .ok (.aload_n 0, 1) := by decide +kernel
theorem d_Mdl_close_45 : decode b_Mdl_close 45 = .ok (.iload_n 2, 1) := by decide +kernel
theorem d_Mdl_close_46 : decode b_Mdl_close 46 = .ok (.invokevirtual 97, 3) := by decide +kernel
theorem d_Mdl_close_49 : decode b_Mdl_close 49 = .ok (.iconst 1, 1) := by decide +kernel
theorem d_Mdl_close_50 : decode b_Mdl_close 50 = .ok (.iload_n 2, 1) := by decide +kernel
theorem d_Mdl_close_51 : decode b_Mdl_close 51 = .ok (.isub, 1) := by decide +kernel
theorem d_Mdl_close_52 : decode b_Mdl_close 52 = .ok (.istore_n 2, 1) := by decide +kernel
theorem d_Mdl_close_53 : decode b_Mdl_close 53 = .ok (.goto (-16), 3) := by decide +kernel
theorem d_Mdl_close_56 : decode b_Mdl_close 56 = .ok (.goto 81, 3) := by decide +kernel
theorem d_Mdl_close_59 : decode b_Mdl_close 59 = .ok (.iload_n 1, 1) := by decide +kernel
theorem d_Mdl_close_60 : decode b_Mdl_close 60 = .ok (.ifCond .ne 51, 3) := by decide +kernel
theorem d_Mdl_close_63 : decode b_Mdl_close 63 = .ok (.aload_n 0, 1) := by decide +kernel
theorem d_Mdl_close_64 : decode b_Mdl_close 64 = .ok (.getfield 73, 3) := by decide +kernel
theorem d_Mdl_close_67 : decode b_Mdl_close 67 = .ok (.aload_n 0, 1) := by decide +kernel
theorem d_Mdl_close_68 : decode b_Mdl_close 68 = .ok (.invokevirtual 69, 3) := by decide +kernel
theorem d_Mdl_close_71 : decode b_Mdl_close 71 = .ok (.iadd, 1) := by decide +kernel
theorem d_Mdl_close_72 : decode b_Mdl_close 72 = .ok (.istore_n 2, 1) := by decide +kernel
theorem d_Mdl_close_73 : decode b_Mdl_close 73 = .ok (.iload_n 2, 1) := by decide +kernel
theorem d_Mdl_close_74 : decode b_Mdl_close 74 = .ok (.ldc 104, 2) := by decide +kernel
theorem d_Mdl_close_76 : decode b_Mdl_close 76 = .ok (.ior, 1) := by decide +kernel
theorem d_Mdl_close_77 : decode b_Mdl_close 77 = .ok (.istore_n 3, 1) := by decide +kernel
theorem d_Mdl_close_78 : decode b_Mdl_close 78 = .ok (.aload_n 0, 1) := by decide +kernel
theorem d_Mdl_close_79 : decode b_Mdl_close 79 = .ok (.iload_n 3, 1) := by decide +kernel
theorem d_Mdl_close_80 : decode b_Mdl_close 80 = .ok (.iload_n 2, 1) := by decide +kernel
theorem d_Mdl_close_81 : decode b_Mdl_close 81 = .ok (.aload_n 0, 1) := by decide +kernel
theorem d_Mdl_close_82 : decode b_Mdl_close 82 = .ok (.getfield 79, 3) := by decide +kernel
theorem d_Mdl_close_85 : decode b_Mdl_close 85 = .ok (.iadd, 1) := by decide +kernel
theorem d_Mdl_close_86 : decode b_Mdl_close 86 = .ok (.if_icmp .lt 10, 3) := by decide +kernel
theorem d_Mdl_close_89 : decode b_Mdl_close 89 = .ok (.iload_n 3, 1) := by decide +kernel
theorem d_Mdl_close_90 : decode b_Mdl_close 90 = .ok (.ldc 52, 2) := by decide +kernel
theorem d_Mdl_close_92 : decode b_Mdl_close 92 = .ok (.isub, 1) := by decide +kernel
theorem d_Mdl_close_93 : decode b_Mdl_close 93 = .ok (.goto 4, 3) := by decide +kernel
theorem d_Mdl_close_96 : decode b_Mdl_close 96 = .ok (.iload_n 3, 1) := by decide +kernel
theorem d_Mdl_close_97 : decode b_Mdl_close 97 = .ok (.invokevirtual 82, 3) := by decide +kernel
theorem d_Mdl_close_100 : decode b_Mdl_close 100 = .ok (.aload_n 0, 1) := by decide +kernel
theorem d_Mdl_close_101 : decode b_Mdl_close 101 = .ok (.invokevirtual 105, 3) := by decide +kernel
theorem d_Mdl_close_104 : decode b_Mdl_close 104 = .ok (.aload_n 0, 1) := by decide +kernel
theorem d_Mdl_close_105 : decode b_Mdl_close 105 = .ok (.invokevirtual 105, 3) := by decide +kernel
theorem d_Mdl_close_108 : decode b_Mdl_close 108 = .ok (.goto 29, 3) := by decide +kernel
theorem d_Mdl_close_111 : decode b_Mdl_close 111 = .ok (.bipush 12, 2) := by decide +kernel
theorem d_Mdl_close_113 : decode b_Mdl_close 113 = .ok (.aload_n 0, 1) := by decide +kernel
theorem d_Mdl_close_114 : decode b_Mdl_close 114 = .ok (.getfield 63, 3) := by decide +kernel
theorem d_Mdl_close_117 : decode b_Mdl_close 117 = .ok (.isub, 1) := by decide +kernel
theorem d_Mdl_close_118 : decode b_Mdl_close 118 = .ok (.istore_n 2, 1) := by decide +kernel
theorem d_Mdl_close_119 : decode b_Mdl_close 119 = .ok (.iload_n 2, 1) := by decide +kernel
theorem d_Mdl_close_120 : decode b_Mdl_close 120 = .ok (.ifCond .le 17, 3) := by decide +kernel
theorem d_Mdl_close_123 : decode b_Mdl_close 123 = .ok (.aload_n 0, 1) := by decide +kernel
theorem d_Mdl_close_124 : decode b_Mdl_close 124 = .ok (.invokevirtual 105, 3) := by decide +kernel
theorem d_Mdl_close_127 : decode b_Mdl_close 127 = .ok (.iload_n 2, 1) := by decide +kernel
theorem d_Mdl_close_128 : decode b_Mdl_close 128 = .ok (.aload_n 0, 1) := by decide +kernel
theorem d_Mdl_close_129 : decode b_Mdl_close 129 = .ok (.getfield 63, 3) := by decide +kernel
theorem d_Mdl_close_132 : decode b_Mdl_close 132 = .ok (.isub, 1) := by decide +kernel
theorem d_Mdl_close_133 : decode b_Mdl_close 133 = .ok (.istore_n 2, 1) := by decide +kernel
theorem d_Mdl_close_134 : decode b_Mdl_close 134 = .ok (.goto (-15), 3) := by decide +kernel
theorem d_Mdl_close_137 : decode b_Mdl_close 137 = .ok (.aload_n 0, 1) := by decide +kernel
theorem d_Mdl_close_138 : decode b_Mdl_close 138 = .ok (.invokevirtual 56, 3) := by decide +kernel
theorem d_Mdl_close_141 : decode b_Mdl_close 141 = .ok (.ifCond .eq 30, 3) := by decide +kernel
theorem d_Mdl_close_144 : decode b_Mdl_close 144 = .ok (.aload_n 0, 1) := by decide +kernel
theorem d_Mdl_close_145 : decode b_Mdl_close 145 = .ok (.getfield 17, 3) := by decide +kernel
theorem d_Mdl_close_148 : decode b_Mdl_close 148 = .ok (.aload_n 0, 1) := by decide +kernel
theorem d_Mdl_close_149 : decode b_Mdl_close 149 = .ok (.getfield 30, 3) := by decide +kernel
theorem d_Mdl_close_152 : decode b_Mdl_close 152 = .ok (.iconst 1, 1) := by decide +kernel
theorem d_Mdl_close_153 : decode b_Mdl_close 153 = .ok (.isub, 1) := by decide +kernel
theorem d_Mdl_close_154 : decode b_Mdl_close 154 = .ok (.iaload, 1) := by decide +kernel
theorem d_Mdl_close_155 : decode b_Mdl_close 155 = .ok (.sipush 255, 3) := by decide +kernel
theorem d_Mdl_close_158 : decode b_Mdl_close 158 = .ok (.if_icmp .ne 13, 3) := by decide +kernel
theorem d_Mdl_close_161 : decode b_Mdl_close 161 = .ok (.aload_n 0, 1) := by decide +kernel
theorem d_Mdl_close_162 : decode b_Mdl_close 162 = .ok (.dup, 1) := by decide +kernel
theorem d_Mdl_close_163 : decode b_Mdl_close 163 = .ok (.getfield 30, 3) := by decide +kernel
theorem d_Mdl_close_166 : decode b_Mdl_close 166 = .ok (.iconst 1, 1) := by decide +kernel
theorem d_Mdl_close_167 : decode b_Mdl_close 167 = .ok (.isub, 1) := by decide +kernel
theorem d_Mdl_close_168 : decode b_Mdl_close 168 = .ok (.putfield 30, 3) := by decide +kernel
theorem d_Mdl_close_171 : decode b_Mdl_close 171 = .ok (.aload_n 0, 1) := by decide +kernel
theorem d_Mdl_close_172 : decode b_Mdl_close 172 = .ok (.iconst 0, 1) := by decide +kernel
theorem d_Mdl_close_173 : decode b_Mdl_close 173 = .ok (.putfield 33, 3) := by decide +kernel
theorem d_Mdl_close_176 : decode b_Mdl_close 176 = .ok (.aload_n 0, 1) := by decide +kernel
theorem d_Mdl_close_177 : decode b_Mdl_close 177 = .ok (.getfield 30, 3) := by decide +kernel
theorem d_Mdl_close_180 : decode b_Mdl_close 180 = .ok (.aload_n 0, 1) := by decide +kernel
theorem d_Mdl_close_181 : decode b_Mdl_close 181 = .ok (.getfield 53, 3) := by decide +kernel
theorem d_Mdl_close_184 : decode b_Mdl_close 184 = .ok (.isub, 1) := by decide +kernel
theorem d_Mdl_close_185 : decode b_Mdl_close 185 = .ok (.ireturn, 1) := by decide +kernel
theorem d_Mdl_byteAt_0 : decode b_Mdl_byteAt 0 = .ok (.iload_n 1, 1) := by decide +kernel
theorem d_Mdl_byteAt_1 : decode b_Mdl_byteAt 1 = .ok (.aload_n 0, 1) := by decide +kernel
theorem d_Mdl_byteAt_2 : decode b_Mdl_byteAt 2 = .ok (.getfield 108, 3) := by decide +kernel
theorem d_Mdl_byteAt_5 : decode b_Mdl_byteAt 5 = .ok (.if_icmp .ge 17, 3) := by decide +kernel
theorem d_Mdl_byteAt_8 : decode b_Mdl_byteAt 8 = .ok (.aload_n 0, 1) := by decide +kernel
theorem d_Mdl_byteAt_9 : decode b_Mdl_byteAt 9 = .ok (.getfield 17, 3) := by decide +kernel
theorem d_Mdl_byteAt_12 : decode b_Mdl_byteAt 12 = .ok (.aload_n 0, 1) := by decide +kernel
theorem d_Mdl_byteAt_13 : decode b_Mdl_byteAt 13 = .ok (.getfield 111, 3) := by decide +kernel
theorem d_Mdl_byteAt_16 : decode b_Mdl_byteAt 16 = .ok (.iload_n 1, 1) := by decide +kernel
theorem d_Mdl_byteAt_17 : decode b_Mdl_byteAt 17 = .ok (.iadd, 1) := by decide +kernel
theorem d_Mdl_byteAt_18 : decode b_Mdl_byteAt 18 = .ok (.iaload, 1) := by decide +kernel
theorem d_Mdl_byteAt_19 : decode b_Mdl_byteAt 19 = .ok (.goto 6, 3) := by decide +kernel
theorem d_Mdl_byteAt_22 : decode b_Mdl_byteAt 22 = .ok (.sipush 255, 3) := by decide +kernel
theorem d_Mdl_byteAt_25 : decode b_Mdl_byteAt 25 = .ok (.ireturn, 1) := by decide +kernel
theorem d_Mdl_read_0 : decode b_Mdl_read 0 = .ok (.iload_n 2, 1) := by decide +kernel
theorem d_Mdl_read_1 : decode b_Mdl_read 1 = .ok (.ifCond .lt 29, 3) := by decide +kernel
theorem d_Mdl_read_4 : decode b_Mdl_read 4 = .ok (.iload_n 3, 1) := by decide +kernel
theorem d_Mdl_read_5 : decode b_Mdl_read 5 = .ok (.ifCond .lt 25, 3) := by decide +kernel
theorem d_Mdl_read_8 : decode b_Mdl_read 8 = .ok (.iload_n 2, 1) := by decide +kernel
theorem d_Mdl_read_9 : decode b_Mdl_read 9 = .ok (.aload_n 0, 1) := by decide +kernel
theorem d_Mdl_read_10 : decode b_Mdl_read 10 = .ok (.getfield 30, 3) := by decide +kernel
theorem d_Mdl_read_13 : decode b_Mdl_read 13 = .ok (.if_icmp .gt 17, 3) := by decide +kernel
theorem d_Mdl_read_16 : decode b_Mdl_read 16 = .ok (.iload_n 3, 1) := by decide +kernel
theorem d_Mdl_read_17 : decode b_Mdl_read 17 = .ok (.aload_n 0, 1) := by decide +kernel
theorem d_Mdl_read_18 : decode b_Mdl_read 18 = .ok (.getfield 30, 3) := by decide +kernel
theorem d_Mdl_read_21 : decode b_Mdl_read 21 = .ok (.iload_n 2, 1) := by decide +kernel
theorem d_Mdl_read_22 : decode b_Mdl_read 22 = .ok (.isub, 1) := by decide +kernel
theorem d_Mdl_read_23 : decode b_Mdl_read 23 = .ok (.if_icmp .gt 7, 3) := by decide +kernel
theorem d_Mdl_read_26 : decode b_Mdl_read 26 = .ok (.iconst 1, 1) := by decide +kernel
theorem d_Mdl_read_27 : decode b_Mdl_read 27 = .ok (.goto 4, 3) := by decide +kernel
theorem d_Mdl_read_30 : decode b_Mdl_read 30 = .ok (.iconst 0, 1) := by decide +kernel
theorem d_Mdl_read_31 : decode b_Mdl_read 31 = .ok (.istore 4, 2) := by decide +kernel
theorem d_Mdl_read_33 : decode b_Mdl_read 33 = .ok (.aload_n 0, 1) := by decide +kernel
theorem d_Mdl_read_34 : decode b_Mdl_read 34 = .ok (.aload_n 0, 1) := by decide +kernel
theorem d_Mdl_read_35 : decode b_Mdl_read 35 = .ok (.getfield 33, 3) := by decide +kernel
theorem d_Mdl_read_38 : decode b_Mdl_read 38 = .ok (.iload 4, 2) := by decide +kernel
theorem d_Mdl_read_40 : decode b_Mdl_read 40 = .ok (.ifCond .ne 7, 3) := by decide +kernel
theorem d_Mdl_read_43 : decode b_Mdl_read 43 = .ok (.iconst 1, 1) := by decide +kernel
theorem d_Mdl_read_44 : decode b_Mdl_read 44 = .ok (.goto 4, 3) := by decide +kernel
theorem d_Mdl_read_47 : decode b_Mdl_read 47 = .ok (.iconst 0, 1) := by decide +kernel
theorem d_Mdl_read_48 : decode b_Mdl_read 48 = .ok (.iconst 0, 1) := by decide +kernel
theorem d_Mdl_read_49 : decode b_Mdl_read 49 = .ok (.invokevirtual 44, 3) := by decide +kernel
theorem d_Mdl_read_52 : decode b_Mdl_read 52 = .ok (.ifCond .eq 4, 3) := by decide +kernel
theorem d_Mdl_read_55 : decode b_Mdl_read 55 = .ok (.return_, 1) := by decide +kernel
theorem d_Mdl_read_56 : decode b_Mdl_read 56 = .ok (.aload_n 0, 1) := by decide +kernel
theorem d_Mdl_read_57 : decode b_Mdl_read 57 = .ok (.iconst 1, 1) := by decide +kernel
theorem d_Mdl_read_58 : decode b_Mdl_read 58 = .ok (.putfield 37, 3) := by decide +kernel
theorem d_Mdl_read_61 : decode b_Mdl_read 61 = .ok (.aload_n 0, 1) := by decide +kernel
theorem d_Mdl_read_62 : decode b_Mdl_read 62 = .ok (.iload_n 1, 1) := by decide +kernel
theorem d_Mdl_read_63 : decode b_Mdl_read 63 = .ok (.putfield 114, 3) := by decide +kernel
theorem d_Mdl_read_66 : decode b_Mdl_read 66 = .ok (.aload_n 0, 1) := by decide +kernel
theorem d_Mdl_read_67 : decode b_Mdl_read 67 = .ok (.iload_n 2, 1) := by decide +kernel
theorem d_Mdl_read_68 : decode b_Mdl_read 68 = .ok (.putfield 111, 3) := by decide +kernel
theorem d_Mdl_read_71 : decode b_Mdl_read 71 = .ok (.aload_n 0, 1) := by decide +kernel
theorem d_Mdl_read_72 : decode b_Mdl_read 72 = .ok (.iload_n 3, 1) := by decide +kernel
theorem d_Mdl_read_73 : decode b_Mdl_read 73 = .ok (.putfield 108, 3) := by decide +kernel
theorem d_Mdl_read_76 : decode b_Mdl_read 76 = .ok (.aload_n 0, 1) := by decide +kernel
theorem d_Mdl_read_77 : decode b_Mdl_read 77 = .ok (.iconst 0, 1) := by decide +kernel
theorem d_Mdl_read_78 : decode b_Mdl_read 78 = .ok (.putfield 117, 3) := by decide +kernel
theorem d_Mdl_read_81 : decode b_Mdl_read 81 = .ok (.aload_n 0, 1) := by decide +kernel
theorem d_Mdl_read_82 : decode b_Mdl_read 82 = .ok (.iconst 0, 1) := by decide +kernel
theorem d_Mdl_read_83 : decode b_Mdl_read 83 = .ok (.putfield 120, 3) := by decide +kernel
theorem d_Mdl_read_86 : decode b_Mdl_read 86 = .ok (.aload_n 0, 1) := by decide +kernel
theorem d_Mdl_read_87 : decode b_Mdl_read 87 = .ok (.iconst 0, 1) := by decide +kernel
theorem d_Mdl_read_88 : decode b_Mdl_read 88 = .ok (.putfield 123, 3) := by decide +kernel
theorem d_Mdl_read_91 : decode b_Mdl_read 91 = .ok (.aload_n 0, 1) := by decide +kernel
theorem d_Mdl_read_92 : decode b_Mdl_read 92 = .ok (.getfield 114, 3) := by decide +kernel
theorem d_Mdl_read_95 : decode b_Mdl_read 95 = .ok (.ifCond .eq 4, 3) := by decide +kernel
theorem d_Mdl_read_98 : decode b_Mdl_read 98 = .ok (.return_, 1) := by decide +kernel
theorem d_Mdl_read_99 : decode b_Mdl_read 99 = .ok (.aload_n 0, 1) := by decide +kernel
theorem d_Mdl_read_100 : decode b_Mdl_read 100 = .ok (.ldc 52, 2) := by decide +kernel
theorem d_Mdl_read_102 : decode b_Mdl_read 102 = .ok (.putfield 126, 3) := by decide +kernel
theorem d_Mdl_read_105 : decode b_Mdl_read 105 = .ok (.aload_n 0, 1) := by decide +kernel
theorem d_Mdl_read_106 : decode b_Mdl_read 106 = .ok (.aload_n 0, 1) := by decide +kernel
theorem d_Mdl_read_107 : decode b_Mdl_read 107 = .ok (.iconst 0, 1) := by decide +kernel
theorem d_Mdl_read_108 : decode b_Mdl_read 108 = .ok (.invokevirtual 129, 3) := by decide +kernel
theorem d_Mdl_read_111 : decode b_Mdl_read 111 = .ok (.putfield 123, 3) := by decide +kernel
theorem d_Mdl_read_114 : decode b_Mdl_read 114 = .ok (.aload_n 0, 1) := by decide +kernel
theorem d_Mdl_read_115 : decode b_Mdl_read 115 = .ok (.iconst 1, 1) := by decide +kernel
theorem d_Mdl_read_116 : decode b_Mdl_read 116 = .ok (.putfield 117, 3) := by decide +kernel
theorem d_Mdl_read_119 : decode b_Mdl_read 119 = .ok (.aload_n 0, 1) := by decide +kernel
theorem d_Mdl_read_120 : decode b_Mdl_read 120 = .ok (.ldc2_w 132, 3) := by decide +kernel
theorem d_Mdl_read_123 : decode b_Mdl_read 123 = .ok (.putfield 134, 3) := by decide +kernel
theorem d_Mdl_read_126 : decode b_Mdl_read 126 = .ok (.aload_n 0, 1) := by decide +kernel
theorem d_Mdl_read_127 : decode b_Mdl_read 127 = .ok (.getfield 123, 3) := by decide +kernel
theorem d_Mdl_read_130 : decode b_Mdl_read 130 = .ok (.i2l, 1) := by decide +kernel
theorem d_Mdl_read_131 : decode b_Mdl_read 131 = .ok (.bipush 16, 2) := by decide +kernel
theorem d_Mdl_read_133 : decode b_Mdl_read 133 = .ok (.lshl, 1) := by decide +kernel
theorem d_Mdl_read_134 : decode b_Mdl_read 134 = .ok (.lstore 5, 2) := by decide +kernel
theorem d_Mdl_read_136 : decode b_Mdl_read 136 = .ok (.lload 5, 2) := by decide +kernel
theorem d_Mdl_read_138 : decode b_Mdl_read 138 = .ok (.aload_n 0, 1) := by decide +kernel
theorem d_Mdl_read_139 : decode b_Mdl_read 139 = .ok (.invokevirtual 138, 3) := by decide +kernel
theorem d_Mdl_read_142 : decode b_Mdl_read 142 = .ok (.i2l, 1) := by decide +kernel
theorem d_Mdl_read_143 : decode b_Mdl_read 143 = .ok (.ladd, 1) := by decide +kernel
theorem d_Mdl_read_144 : decode b_Mdl_read 144 = .ok (.lstore 5, 2) := by decide +kernel
theorem d_Mdl_read_146 : decode b_Mdl_read 146 = .ok (.aload_n 0, 1) := by decide +kernel
theorem d_Mdl_read_147 : decode b_Mdl_read 147 = .ok (.aload_n 0, 1) := by decide +kernel
theorem d_Mdl_read_148 : decode b_Mdl_read 148 = .ok (.getfield 134, 3) := by decide +kernel
theorem d_Mdl_read_151 : decode b_Mdl_read 151 = .ok (.lload 5, 2) := by decide +kernel
theorem d_Mdl_read_153 : decode b_Mdl_read 153 = .ok (.bipush 7, 2) := by decide +kernel
theorem d_Mdl_read_155 : decode b_Mdl_read 155 = .ok (.lshl, 1) := by decide +kernel
theorem d_Mdl_read_156 : decode b_Mdl_read 156 = .ok (.lsub, 1) := by decide +kernel
theorem d_Mdl_read_157 : decode b_Mdl_read 157 = .ok (.putfield 134, 3) := by decide +kernel
theorem d_Mdl_read_160 : decode b_Mdl_read 160 = .ok (.aload_n 0, 1) := by decide +kernel
theorem d_Mdl_read_161 : decode b_Mdl_read 161 = .ok (.aload_n 0, 1) := by decide +kernel
theorem d_Mdl_read_162 : decode b_Mdl_read 162 = .ok (.getfield 120, 3) := by decide +kernel
theorem d_Mdl_read_165 : decode b_Mdl_read 165 = .ok (.bipush 7, 2) := by decide +kernel
theorem d_Mdl_read_167 : decode b_Mdl_read 167 = .ok (.isub, 1) := by decide +kernel
theorem d_Mdl_read_168 : decode b_Mdl_read 168 = .ok (.putfield 120, 3) := by decide +kernel
theorem d_Mdl_read_171 : decode b_Mdl_read 171 = .ok (.return_, 1) := by decide +kernel
theorem d_Mdl_comesIn_0 : decode b_Mdl_comesIn 0 = .ok (.aload_n 0, 1) := by decide +kernel
theorem d_Mdl_comesIn_1 : decode b_Mdl_comesIn 1 = .ok (.bipush 8, 2) := by decide +kernel
theorem d_Mdl_comesIn_3 : decode b_Mdl_comesIn 3 = .ok (.putfield 120, 3) := by decide +kernel
theorem d_Mdl_comesIn_6 : decode b_Mdl_comesIn 6 = .ok (.aload_n 0, 1) := by decide +kernel
theorem d_Mdl_comesIn_7 : decode b_Mdl_comesIn 7 = .ok (.getfield 123, 3) := by decide +kernel
theorem d_Mdl_comesIn_10 : decode b_Mdl_comesIn 10 = .ok (.sipush 255, 3) := by decide +kernel
theorem d_Mdl_comesIn_13 : decode b_Mdl_comesIn 13 = .ok (.if_icmp .eq 33, 3) := by decide +kernel
theorem d_Mdl_comesIn_16 : decode b_Mdl_comesIn 16 = .ok (.aload_n 0, 1) := by decide +kernel
theorem d_Mdl_comesIn_17 : decode b_Mdl_comesIn 17 = .ok (.aload_n 0, 1) := by decide +kernel
theorem d_Mdl_comesIn_18 : decode b_Mdl_comesIn 18 = .ok (.aload_n 0, 1) := by decide +kernel
theorem d_Mdl_comesIn_19 : decode b_Mdl_comesIn 19 = .ok (.getfield 117, 3) := by decide +kernel
theorem d_Mdl_comesIn_22 : decode b_Mdl_comesIn 22 = .ok (.invokevirtual 129, 3) := by decide +kernel
theorem d_Mdl_comesIn_25 : decode b_Mdl_comesIn 25 = .ok (.putfield 123, 3) := by decide +kernel
theorem d_Mdl_comesIn_28 : decode b_Mdl_comesIn 28 = .ok (.aload_n 0, 1) := by decide +kernel
theorem d_Mdl_comesIn_29 : decode b_Mdl_comesIn 29 = .ok (.dup, 1) := by decide +kernel
theorem d_Mdl_comesIn_30 : decode b_Mdl_comesIn 30 = .ok (.getfield 117, 3) := by decide +kernel
theorem d_Mdl_comesIn_33 : decode b_Mdl_comesIn 33 = .ok (.iconst 1, 1) := by decide +kernel
theorem d_Mdl_comesIn_34 : decode b_Mdl_comesIn 34 = .ok (.iadd, 1) := by decide +kernel
theorem d_Mdl_comesIn_35 : decode b_Mdl_comesIn 35 = .ok (.putfield 117, 3) := by decide +kernel
theorem d_Mdl_comesIn_38 : decode b_Mdl_comesIn 38 = .ok (.aload_n 0, 1) := by decide +kernel
theorem d_Mdl_comesIn_39 : decode b_Mdl_comesIn 39 = .ok (.getfield 123, 3) := by decide +kernel
theorem d_Mdl_comesIn_42 : decode b_Mdl_comesIn 42 = .ok (.bipush 8, 2) := by decide +kernel
theorem d_Mdl_comesIn_44 : decode b_Mdl_comesIn 44 = .ok (.ishl, 1) := by decide +kernel
theorem d_Mdl_comesIn_45 : decode b_Mdl_comesIn 45 = .ok (.ireturn, 1) := by decide +kernel
theorem d_Mdl_comesIn_46 : decode b_Mdl_comesIn 46 = .ok (.aload_n 0, 1) := by decide +kernel
theorem d_Mdl_comesIn_47 : decode b_Mdl_comesIn 47 = .ok (.aload_n 0, 1) := by decide +kernel
theorem d_Mdl_comesIn_48 : decode b_Mdl_comesIn 48 = .ok (.getfield 117, 3) := by decide +kernel
theorem d_Mdl_comesIn_51 : decode b_Mdl_comesIn 51 = .ok (.invokevirtual 129, 3) := by decide +kernel
theorem d_Mdl_comesIn_54 : decode b_Mdl_comesIn 54 = .ok (.sipush 143, 3) := by decide +kernel
theorem d_Mdl_comesIn_57 : decode b_Mdl_comesIn 57 = .ok (.if_icmp .le 6, 3) := by decide +kernel
theorem d_Mdl_comesIn_60 : decode b_Mdl_comesIn 60 = .ok (.ldc 141, 2) := by decide +kernel
theorem d_Mdl_comesIn_62 : decode b_Mdl_comesIn 62 = .ok (.ireturn, 1) := by decide +kernel
theorem d_Mdl_comesIn_63 : decode b_Mdl_comesIn 63 = .ok (.aload_n 0, 1) := by decide +kernel
theorem d_Mdl_comesIn_64 : decode b_Mdl_comesIn 64 = .ok (.aload_n 0, 1) := by decide +kernel
theorem d_Mdl_comesIn_65 : decode b_Mdl_comesIn 65 = .ok (.aload_n 0, 1) := by decide +kernel
theorem d_Mdl_comesIn_66 : decode b_Mdl_comesIn 66 = .ok (.getfield 117, 3) := by decide +kernel
theorem d_Mdl_comesIn_69 : decode b_Mdl_comesIn 69 = .ok (.invokevirtual 129, 3) := by decide +kernel
theorem d_Mdl_comesIn_72 : decode b_Mdl_comesIn 72 = .ok (.putfield 123, 3) := by decide +kernel
theorem d_Mdl_comesIn_75 : decode b_Mdl_comesIn 75 = .ok (.aload_n 0, 1) := by decide +kernel
theorem d_Mdl_comesIn_76 : decode b_Mdl_comesIn 76 = .ok (.dup, 1) := by decide +kernel
theorem d_Mdl_comesIn_77 : decode b_Mdl_comesIn 77 = .ok (.getfield 117, 3) := by decide +kernel
theorem d_Mdl_comesIn_80 : decode b_Mdl_comesIn 80 = .ok (.iconst 1, 1) := by decide +kernel
theorem d_Mdl_comesIn_81 : decode b_Mdl_comesIn 81 = .ok (.iadd, 1) := by decide +kernel
theorem d_Mdl_comesIn_82 : decode b_Mdl_comesIn 82 = .ok (.putfield 117, 3) := by decide +kernel
theorem d_Mdl_comesIn_85 : decode b_Mdl_comesIn 85 = .ok (.aload_n 0, 1) := by decide +kernel
theorem d_Mdl_comesIn_86 : decode b_Mdl_comesIn 86 = .ok (.bipush 7, 2) := by decide +kernel
theorem d_Mdl_comesIn_88 : decode b_Mdl_comesIn 88 = .ok (.putfield 120, 3) := by decide +kernel
theorem d_Mdl_comesIn_91 : decode b_Mdl_comesIn 91 = .ok (.aload_n 0, 1) := by decide +kernel
theorem d_Mdl_comesIn_92 : decode b_Mdl_comesIn 92 = .ok (.getfield 123, 3) := by decide +kernel
theorem d_Mdl_comesIn_95 : decode b_Mdl_comesIn 95 = .ok (.bipush 9, 2) := by decide +kernel
theorem d_Mdl_comesIn_97 : decode b_Mdl_comesIn 97 = .ok (.ishl, 1) := by decide +kernel
theorem d_Mdl_comesIn_98 : decode b_Mdl_comesIn 98 = .ok (.ireturn, 1) := by decide +kernel
theorem d_Mdl_round_0 : decode b_Mdl_round 0 = .ok (.aload_n 0, 1) := by decide +kernel
theorem d_Mdl_round_1 : decode b_Mdl_round 1 = .ok (.getfield 126, 3) := by decide +kernel
theorem d_Mdl_round_4 : decode b_Mdl_round 4 = .ok (.i2l, 1) := by decide +kernel
theorem d_Mdl_round_5 : decode b_Mdl_round 5 = .ok (.bipush 16, 2) := by decide +kernel
theorem d_Mdl_round_7 : decode b_Mdl_round 7 = .ok (.lshl, 1) := by decide +kernel
theorem d_Mdl_round_8 : decode b_Mdl_round 8 = .ok (.lconst 1, 1) := by decide +kernel
theorem d_Mdl_round_9 : decode b_Mdl_round 9 = .ok (.lsub, 1) := by decide +kernel
theorem d_Mdl_round_10 : decode b_Mdl_round 10 = .ok (.aload_n 0, 1) := by decide +kernel
theorem d_Mdl_round_11 : decode b_Mdl_round 11 = .ok (.getfield 134, 3) := by decide +kernel
theorem d_Mdl_round_14 : decode b_Mdl_round 14 = .ok (.lsub, 1) := by decide +kernel
theorem d_Mdl_round_15 : decode b_Mdl_round 15 = .ok (.lstore_n 1, 1) := by decide +kernel
theorem d_Mdl_round_16 : decode b_Mdl_round 16 = .ok (.lload_n 1, 1) := by decide +kernel
theorem d_Mdl_round_17 : decode b_Mdl_round 17 = .ok (.bipush 32, 2) := by decide +kernel
theorem d_Mdl_round_19 : decode b_Mdl_round 19 = .ok (.lshr, 1) := by decide +kernel
theorem d_Mdl_round_20 : decode b_Mdl_round 20 = .ok (.lconst 0, 1) := by decide +kernel
theorem d_Mdl_round_21 : decode b_Mdl_round 21 = .ok (.lcmp, 1) := by decide +kernel
theorem d_Mdl_round_22 : decode b_Mdl_round 22 = .ok (.ifCond .eq 15, 3) := by decide +kernel
theorem d_Mdl_round_25 : decode b_Mdl_round 25 = .ok (.aload_n 0, 1) := by decide +kernel
theorem d_Mdl_round_26 : decode b_Mdl_round 26 = .ok (.aload_n 0, 1) := by decide +kernel
theorem d_Mdl_round_27 : decode b_Mdl_round 27 = .ok (.getfield 134, 3) := by decide +kernel
theorem d_Mdl_round_30 : decode b_Mdl_round 30 = .ok (.ldc2_w 142, 3) := by decide +kernel
theorem d_Mdl_round_33 : decode b_Mdl_round 33 = .ok (.ladd, 1) := by decide +kernel
theorem d_Mdl_round_34 : decode b_Mdl_round 34 = .ok (.putfield 134, 3) := by decide +kernel
theorem d_Mdl_round_37 : decode b_Mdl_round 37 = .ok (.return_, 1) := by decide +kernel
theorem d_Mdl_readCoded_0 : decode b_Mdl_readCoded 0 = .ok (.aload_n 0, 1) := by decide +kernel
theorem d_Mdl_readCoded_1 : decode b_Mdl_readCoded 1 = .ok (.getfield 7, 3) := by decide +kernel
theorem d_Mdl_readCoded_4 : decode b_Mdl_readCoded 4 = .ok (.aload_n 0, 1) := by decide +kernel
theorem d_Mdl_readCoded_5 : decode b_Mdl_readCoded 5 = .ok (.getfield 20, 3) := by decide +kernel
theorem d_Mdl_readCoded_8 : decode b_Mdl_readCoded 8 = .ok (.iload_n 1, 1) := by decide +kernel
theorem d_Mdl_readCoded_9 : decode b_Mdl_readCoded 9 = .ok (.iaload, 1) := by decide +kernel
theorem d_Mdl_readCoded_10 : decode b_Mdl_readCoded 10 = .ok (.iaload, 1) := by decide +kernel
theorem d_Mdl_readCoded_11 : decode b_Mdl_readCoded 11 = .ok (.istore_n 2, 1) := by decide +kernel
theorem d_Mdl_readCoded_12 : decode b_Mdl_readCoded 12 = .ok (.aload_n 0, 1) := by decide +kernel
theorem d_Mdl_readCoded_13 : decode b_Mdl_readCoded 13 = .ok (.getfield 23, 3) := by decide +kernel
theorem d_Mdl_readCoded_16 : decode b_Mdl_readCoded 16 = .ok (.iload_n 1, 1) := by decide +kernel
theorem d_Mdl_readCoded_17 : decode b_Mdl_readCoded 17 = .ok (.iaload, 1) := by decide +kernel
theorem d_Mdl_readCoded_18 : decode b_Mdl_readCoded 18 = .ok (.istore_n 3, 1) := by decide +kernel
theorem d_Mdl_readCoded_19 : decode b_Mdl_readCoded 19 = .ok (.aload_n 0, 1) := by decide +kernel
theorem d_Mdl_readCoded_20 : decode b_Mdl_readCoded 20 = .ok (.aload_n 0, 1) := by decide +kernel
theorem d_Mdl_readCoded_21 : decode b_Mdl_readCoded 21 = .ok (.getfield 126, 3) := by decide +kernel
theorem d_Mdl_readCoded_24 : decode b_Mdl_readCoded 24 = .ok (.iload_n 2, 1) := by decide +kernel
theorem d_Mdl_readCoded_25 : decode b_Mdl_readCoded 25 = .ok (.isub, 1) := by decide +kernel
theorem d_Mdl_readCoded_26 : decode b_Mdl_readCoded 26 = .ok (.putfield 126, 3) := by decide +kernel
theorem d_Mdl_readCoded_29 : decode b_Mdl_readCoded 29 = .ok (.aload_n 0, 1) := by decide +kernel
theorem d_Mdl_readCoded_30 : decode b_Mdl_readCoded 30 = .ok (.getfield 134, 3) := by decide +kernel
theorem d_Mdl_readCoded_33 : decode b_Mdl_readCoded 33 = .ok (.aload_n 0, 1) := by decide +kernel
theorem d_Mdl_readCoded_34 : decode b_Mdl_readCoded 34 = .ok (.getfield 126, 3) := by decide +kernel
theorem d_Mdl_readCoded_37 : decode b_Mdl_readCoded 37 = .ok (.i2l, 1) := by decide +kernel
theorem d_Mdl_readCoded_38 : decode b_Mdl_readCoded 38 = .ok (.bipush 16, 2) := by decide +kernel
theorem d_Mdl_readCoded_40 : decode b_Mdl_readCoded 40 = .ok (.lshl, 1) := by decide +kernel
theorem d_Mdl_readCoded_41 : decode b_Mdl_readCoded 41 = .ok (.lcmp, 1) := by decide +kernel
theorem d_Mdl_readCoded_42 : decode b_Mdl_readCoded 42 = .ok (.ifCond .lt 7, 3) := by decide +kernel
theorem d_Mdl_readCoded_45 : decode b_Mdl_readCoded 45 = .ok (.iconst 1, 1) := by decide +kernel
theorem d_Mdl_readCoded_46 : decode b_Mdl_readCoded 46 = .ok (.goto 4, 3) := by decide +kernel
theorem d_Mdl_readCoded_49 : decode b_Mdl_readCoded 49 = .ok (.iconst 0, 1) := by decide +kernel
theorem d_Mdl_readCoded_50 : decode b_Mdl_readCoded 50 = .ok (.istore 4, 2) := by decide +kernel
theorem d_Mdl_readCoded_52 : decode b_Mdl_readCoded 52 = .ok (.iload 4, 2) := by decide +kernel
theorem d_Mdl_readCoded_54 : decode b_Mdl_readCoded 54 = .ok (.ifCond .ne 14, 3) := by decide +kernel
theorem d_Mdl_readCoded_57 : decode b_Mdl_readCoded 57 = .ok (.aload_n 0, 1) := by decide +kernel
theorem d_Mdl_readCoded_58 : decode b_Mdl_readCoded 58 = .ok (.getfield 126, 3) := by decide +kernel
theorem d_Mdl_readCoded_61 : decode b_Mdl_readCoded 61 = .ok (.ldc 52, 2) := by decide +kernel
theorem d_Mdl_readCoded_63 : decode b_Mdl_readCoded 63 = .ok (.if_icmp .lt 5, 3) := by decide +kernel
theorem d_Mdl_readCoded_66 : decode b_Mdl_readCoded 66 = .ok (.iload_n 3, 1) := by decide +kernel
theorem d_Mdl_readCoded_67 : decode b_Mdl_readCoded 67 = .ok (.ireturn, 1) := by decide +kernel
theorem d_Mdl_readCoded_68 : decode b_Mdl_readCoded 68 = .ok (.iload 4, 2) := by decide +kernel
theorem d_Mdl_readCoded_70 : decode b_Mdl_readCoded 70 = .ok (.aload_n 0, 1) := by decide +kernel
theorem d_Mdl_readCoded_71 : decode b_Mdl_readCoded 71 = .ok (.getfield 126, 3) := by decide +kernel
theorem d_Mdl_readCoded_74 : decode b_Mdl_readCoded 74 = .ok (.iload_n 2, 1) := by decide +kernel
theorem d_Mdl_readCoded_75 : decode b_Mdl_readCoded 75 = .ok (.if_icmp .ge 7, 3) := by decide +kernel
theorem d_Mdl_readCoded_78 : decode b_Mdl_readCoded 78 = .ok (.iconst 1, 1) := by decide +kernel
theorem d_Mdl_readCoded_79 : decode b_Mdl_readCoded 79 = .ok (.goto 4, 3) := by decide +kernel
end
section
theorem d_Mdl_readCoded_82 : decode b_Mdl_readCoded 82 = .ok (.iconst 0, 1) := by decide +kernel
theorem d_Mdl_readCoded_83 : decode b_Mdl_readCoded 83 = .ok (.if_icmp .ne 7, 3) := by decide +kernel
theorem d_Mdl_readCoded_86 : decode b_Mdl_readCoded 86 = .ok (.iconst 1, 1) := by decide +kernel
theorem d_Mdl_readCoded_87 : decode b_Mdl_readCoded 87 = .ok (.goto 4, 3) := by decide +kernel
theorem d_Mdl_readCoded_90 : decode b_Mdl_readCoded 90 = .ok (.iconst 0, 1) := by decide +kernel
theorem d_Mdl_readCoded_91 : decode b_Mdl_readCoded 91 = .ok (.istore 5, 2) := by decide +kernel
theorem d_Mdl_readCoded_93 : decode b_Mdl_readCoded 93 = .ok (.iload 4, 2) := by decide +kernel
theorem d_Mdl_readCoded_95 : decode b_Mdl_readCoded 95 = .ok (.ifCond .eq 25, 3) := by decide +kernel
theorem d_Mdl_readCoded_98 : decode b_Mdl_readCoded 98 = .ok (.aload_n 0, 1) := by decide +kernel
theorem d_Mdl_readCoded_99 : decode b_Mdl_readCoded 99 = .ok (.aload_n 0, 1) := by decide +kernel
theorem d_Mdl_readCoded_100 : decode b_Mdl_readCoded 100 = .ok (.getfield 134, 3) := by decide +kernel
theorem d_Mdl_readCoded_103 : decode b_Mdl_readCoded 103 = .ok (.aload_n 0, 1) := by decide +kernel
theorem d_Mdl_readCoded_104 : decode b_Mdl_readCoded 104 = .ok (.getfield 126, 3) := by decide +kernel
theorem d_Mdl_readCoded_107 : decode b_Mdl_readCoded 107 = .ok (.i2l, 1) := by decide +kernel
theorem d_Mdl_readCoded_108 : decode b_Mdl_readCoded 108 = .ok (.bipush 16, 2) := by decide +kernel
theorem d_Mdl_readCoded_110 : decode b_Mdl_readCoded 110 = .ok (.lshl, 1) := by decide +kernel
theorem d_Mdl_readCoded_111 : decode b_Mdl_readCoded 111 = .ok (.lsub, 1) := by decide +kernel
theorem d_Mdl_readCoded_112 : decode b_Mdl_readCoded 112 = .ok (.putfield 134, 3) := by decide +kernel
theorem d_Mdl_readCoded_115 : decode b_Mdl_readCoded 115 = .ok (.aload_n 0, 1) := by decide +kernel
theorem d_Mdl_readCoded_116 : decode b_Mdl_readCoded 116 = .ok (.iload_n 2, 1) := by decide +kernel
theorem d_Mdl_readCoded_117 : decode b_Mdl_readCoded 117 = .ok (.putfield 126, 3) := by decide +kernel
theorem d_Mdl_readCoded_120 : decode b_Mdl_readCoded 120 = .ok (.aload_n 0, 1) := by decide +kernel
theorem d_Mdl_readCoded_121 : decode b_Mdl_readCoded 121 = .ok (.iload_n 1, 1) := by decide +kernel
theorem d_Mdl_readCoded_122 : decode b_Mdl_readCoded 122 = .ok (.iload 5, 2) := by decide +kernel
theorem d_Mdl_readCoded_124 : decode b_Mdl_readCoded 124 = .ok (.invokevirtual 86, 3) := by decide +kernel
theorem d_Mdl_readCoded_127 : decode b_Mdl_readCoded 127 = .ok (.aload_n 0, 1) := by decide +kernel
theorem d_Mdl_readCoded_128 : decode b_Mdl_readCoded 128 = .ok (.getfield 126, 3) := by decide +kernel
theorem d_Mdl_readCoded_131 : decode b_Mdl_readCoded 131 = .ok (.ldc 52, 2) := by decide +kernel
theorem d_Mdl_readCoded_133 : decode b_Mdl_readCoded 133 = .ok (.if_icmp .ge 72, 3) := by decide +kernel
theorem d_Mdl_readCoded_136 : decode b_Mdl_readCoded 136 = .ok (.aload_n 0, 1) := by decide +kernel
theorem d_Mdl_readCoded_137 : decode b_Mdl_readCoded 137 = .ok (.getfield 120, 3) := by decide +kernel
theorem d_Mdl_readCoded_140 : decode b_Mdl_readCoded 140 = .ok (.ifCond .ne 21, 3) := by decide +kernel
theorem d_Mdl_readCoded_143 : decode b_Mdl_readCoded 143 = .ok (.aload_n 0, 1) := by decide +kernel
theorem d_Mdl_readCoded_144 : decode b_Mdl_readCoded 144 = .ok (.aload_n 0, 1) := by decide +kernel
theorem d_Mdl_readCoded_145 : decode b_Mdl_readCoded 145 = .ok (.getfield 134, 3) := by decide +kernel
theorem d_Mdl_readCoded_148 : decode b_Mdl_readCoded 148 = .ok (.aload_n 0, 1) := by decide +kernel
theorem d_Mdl_readCoded_149 : decode b_Mdl_readCoded 149 = .ok (.invokevirtual 138, 3) := by decide +kernel
theorem d_Mdl_readCoded_152 : decode b_Mdl_readCoded 152 = .ok (.i2l, 1) := by decide +kernel
theorem d_Mdl_readCoded_153 : decode b_Mdl_readCoded 153 = .ok (.lsub, 1) := by decide +kernel
theorem d_Mdl_readCoded_154 : decode b_Mdl_readCoded 154 = .ok (.putfield 134, 3) := by decide +kernel
theorem d_Mdl_readCoded_157 : decode b_Mdl_readCoded 157 = .ok (.aload_n 0, 1) := by decide +kernel
theorem d_Mdl_readCoded_158 : decode b_Mdl_readCoded 158 = .ok (.invokevirtual 144, 3) := by decide +kernel
theorem d_Mdl_readCoded_161 : decode b_Mdl_readCoded 161 = .ok (.aload_n 0, 1) := by decide +kernel
theorem d_Mdl_readCoded_162 : decode b_Mdl_readCoded 162 = .ok (.aload_n 0, 1) := by decide +kernel
theorem d_Mdl_readCoded_163 : decode b_Mdl_readCoded 163 = .ok (.getfield 126, 3) := by decide +kernel
theorem d_Mdl_readCoded_166 : decode b_Mdl_readCoded 166 = .ok (.aload_n 0, 1) := by decide +kernel
theorem d_Mdl_readCoded_167 : decode b_Mdl_readCoded 167 = .ok (.getfield 126, 3) := by decide +kernel
theorem d_Mdl_readCoded_170 : decode b_Mdl_readCoded 170 = .ok (.iadd, 1) := by decide +kernel
theorem d_Mdl_readCoded_171 : decode b_Mdl_readCoded 171 = .ok (.putfield 126, 3) := by decide +kernel
theorem d_Mdl_readCoded_174 : decode b_Mdl_readCoded 174 = .ok (.aload_n 0, 1) := by decide +kernel
theorem d_Mdl_readCoded_175 : decode b_Mdl_readCoded 175 = .ok (.ldc2_w 147, 3) := by decide +kernel
theorem d_Mdl_readCoded_178 : decode b_Mdl_readCoded 178 = .ok (.aload_n 0, 1) := by decide +kernel
theorem d_Mdl_readCoded_179 : decode b_Mdl_readCoded 179 = .ok (.getfield 134, 3) := by decide +kernel
theorem d_Mdl_readCoded_182 : decode b_Mdl_readCoded 182 = .ok (.lmul, 1) := by decide +kernel
theorem d_Mdl_readCoded_183 : decode b_Mdl_readCoded 183 = .ok (.lconst 1, 1) := by decide +kernel
theorem d_Mdl_readCoded_184 : decode b_Mdl_readCoded 184 = .ok (.ladd, 1) := by decide +kernel
theorem d_Mdl_readCoded_185 : decode b_Mdl_readCoded 185 = .ok (.putfield 134, 3) := by decide +kernel
theorem d_Mdl_readCoded_188 : decode b_Mdl_readCoded 188 = .ok (.aload_n 0, 1) := by decide +kernel
theorem d_Mdl_readCoded_189 : decode b_Mdl_readCoded 189 = .ok (.invokevirtual 144, 3) := by decide +kernel
theorem d_Mdl_readCoded_192 : decode b_Mdl_readCoded 192 = .ok (.aload_n 0, 1) := by decide +kernel
theorem d_Mdl_readCoded_193 : decode b_Mdl_readCoded 193 = .ok (.dup, 1) := by decide +kernel
theorem d_Mdl_readCoded_194 : decode b_Mdl_readCoded 194 = .ok (.getfield 120, 3) := by decide +kernel
theorem d_Mdl_readCoded_197 : decode b_Mdl_readCoded 197 = .ok (.iconst 1, 1) := by decide +kernel
theorem d_Mdl_readCoded_198 : decode b_Mdl_readCoded 198 = .ok (.isub, 1) := by decide +kernel
theorem d_Mdl_readCoded_199 : decode b_Mdl_readCoded 199 = .ok (.putfield 120, 3) := by decide +kernel
theorem d_Mdl_readCoded_202 : decode b_Mdl_readCoded 202 = .ok (.goto (-75), 3) := by decide +kernel
theorem d_Mdl_readCoded_205 : decode b_Mdl_readCoded 205 = .ok (.iload 5, 2) := by decide +kernel
theorem d_Mdl_readCoded_207 : decode b_Mdl_readCoded 207 = .ok (.ifCond .eq 7, 3) := by decide +kernel
theorem d_Mdl_readCoded_210 : decode b_Mdl_readCoded 210 = .ok (.iload_n 3, 1) := by decide +kernel
theorem d_Mdl_readCoded_211 : decode b_Mdl_readCoded 211 = .ok (.goto 6, 3) := by decide +kernel
theorem d_Mdl_readCoded_214 : decode b_Mdl_readCoded 214 = .ok (.iconst 1, 1) := by decide +kernel
theorem d_Mdl_readCoded_215 : decode b_Mdl_readCoded 215 = .ok (.iload_n 3, 1) := by decide +kernel
theorem d_Mdl_readCoded_216 : decode b_Mdl_readCoded 216 = .ok (.isub, 1) := by decide +kernel
theorem d_Mdl_readCoded_217 : decode b_Mdl_readCoded 217 = .ok (.ireturn, 1) := by decide +kernel
theorem d_Mdl_readRaw_0 : decode b_Mdl_readRaw 0 = .ok (.aload_n 0, 1) := by decide +kernel
theorem d_Mdl_readRaw_1 : decode b_Mdl_readRaw 1 = .ok (.getfield 120, 3) := by decide +kernel
theorem d_Mdl_readRaw_4 : decode b_Mdl_readRaw 4 = .ok (.ifCond .ne 53, 3) := by decide +kernel
theorem d_Mdl_readRaw_7 : decode b_Mdl_readRaw 7 = .ok (.aload_n 0, 1) := by decide +kernel
theorem d_Mdl_readRaw_8 : decode b_Mdl_readRaw 8 = .ok (.aload_n 0, 1) := by decide +kernel
theorem d_Mdl_readRaw_9 : decode b_Mdl_readRaw 9 = .ok (.getfield 117, 3) := by decide +kernel
theorem d_Mdl_readRaw_12 : decode b_Mdl_readRaw 12 = .ok (.ifCond .le 18, 3) := by decide +kernel
theorem d_Mdl_readRaw_15 : decode b_Mdl_readRaw 15 = .ok (.aload_n 0, 1) := by decide +kernel
theorem d_Mdl_readRaw_16 : decode b_Mdl_readRaw 16 = .ok (.getfield 123, 3) := by decide +kernel
theorem d_Mdl_readRaw_19 : decode b_Mdl_readRaw 19 = .ok (.sipush 255, 3) := by decide +kernel
theorem d_Mdl_readRaw_22 : decode b_Mdl_readRaw 22 = .ok (.if_icmp .ne 8, 3) := by decide +kernel
theorem d_Mdl_readRaw_25 : decode b_Mdl_readRaw 25 = .ok (.bipush 7, 2) := by decide +kernel
theorem d_Mdl_readRaw_27 : decode b_Mdl_readRaw 27 = .ok (.goto 5, 3) := by decide +kernel
theorem d_Mdl_readRaw_30 : decode b_Mdl_readRaw 30 = .ok (.bipush 8, 2) := by decide +kernel
theorem d_Mdl_readRaw_32 : decode b_Mdl_readRaw 32 = .ok (.putfield 120, 3) := by decide +kernel
theorem d_Mdl_readRaw_35 : decode b_Mdl_readRaw 35 = .ok (.aload_n 0, 1) := by decide +kernel
theorem d_Mdl_readRaw_36 : decode b_Mdl_readRaw 36 = .ok (.aload_n 0, 1) := by decide +kernel
theorem d_Mdl_readRaw_37 : decode b_Mdl_readRaw 37 = .ok (.aload_n 0, 1) := by decide +kernel
theorem d_Mdl_readRaw_38 : decode b_Mdl_readRaw 38 = .ok (.getfield 117, 3) := by decide +kernel
theorem d_Mdl_readRaw_41 : decode b_Mdl_readRaw 41 = .ok (.invokevirtual 129, 3) := by decide +kernel
theorem d_Mdl_readRaw_44 : decode b_Mdl_readRaw 44 = .ok (.putfield 123, 3) := by decide +kernel
theorem d_Mdl_readRaw_47 : decode b_Mdl_readRaw 47 = .ok (.aload_n 0, 1) := by decide +kernel
theorem d_Mdl_readRaw_48 : decode b_Mdl_readRaw 48 = .ok (.dup, 1) := by decide +kernel
theorem d_Mdl_readRaw_49 : decode b_Mdl_readRaw 49 = .ok (.getfield 117, 3) := by decide +kernel
theorem d_Mdl_readRaw_52 : decode b_Mdl_readRaw 52 = .ok (.iconst 1, 1) := by decide +kernel
theorem d_Mdl_readRaw_53 : decode b_Mdl_readRaw 53 = .ok (.iadd, 1) := by decide +kernel
theorem d_Mdl_readRaw_54 : decode b_Mdl_readRaw 54 = .ok (.putfield 117, 3) := by decide +kernel
theorem d_Mdl_readRaw_57 : decode b_Mdl_readRaw 57 = .ok (.aload_n 0, 1) := by decide +kernel
theorem d_Mdl_readRaw_58 : decode b_Mdl_readRaw 58 = .ok (.dup, 1) := by decide +kernel
theorem d_Mdl_readRaw_59 : decode b_Mdl_readRaw 59 = .ok (.getfield 120, 3) := by decide +kernel
theorem d_Mdl_readRaw_62 : decode b_Mdl_readRaw 62 = .ok (.iconst 1, 1) := by decide +kernel
theorem d_Mdl_readRaw_63 : decode b_Mdl_readRaw 63 = .ok (.isub, 1) := by decide +kernel
theorem d_Mdl_readRaw_64 : decode b_Mdl_readRaw 64 = .ok (.putfield 120, 3) := by decide +kernel
theorem d_Mdl_readRaw_67 : decode b_Mdl_readRaw 67 = .ok (.aload_n 0, 1) := by decide +kernel
theorem d_Mdl_readRaw_68 : decode b_Mdl_readRaw 68 = .ok (.getfield 123, 3) := by decide +kernel
theorem d_Mdl_readRaw_71 : decode b_Mdl_readRaw 71 = .ok (.aload_n 0, 1) := by decide +kernel
theorem d_Mdl_readRaw_72 : decode b_Mdl_readRaw 72 = .ok (.getfield 120, 3) := by decide +kernel
theorem d_Mdl_readRaw_75 : decode b_Mdl_readRaw 75 = .ok (.ishr, 1) := by decide +kernel
theorem d_Mdl_readRaw_76 : decode b_Mdl_readRaw 76 = .ok (.iconst 1, 1) := by decide +kernel
theorem d_Mdl_readRaw_77 : decode b_Mdl_readRaw 77 = .ok (.iand, 1) := by decide +kernel
theorem d_Mdl_readRaw_78 : decode b_Mdl_readRaw 78 = .ok (.ireturn, 1) := by decide +kernel
theorem d_Mdl_bits_0 : decode b_Mdl_bits 0 = .ok (.aload_n 0, 1) := by decide +kernel
theorem d_Mdl_bits_1 : decode b_Mdl_bits 1 = .ok (.getfield 114, 3) := by decide +kernel
theorem d_Mdl_bits_4 : decode b_Mdl_bits 4 = .ok (.ifCond .eq 16, 3) := by decide +kernel
theorem d_Mdl_bits_7 : decode b_Mdl_bits 7 = .ok (.iload_n 1, 1) := by decide +kernel
theorem d_Mdl_bits_8 : decode b_Mdl_bits 8 = .ok (.iconst (-1), 1) := by decide +kernel
theorem d_Mdl_bits_9 : decode b_Mdl_bits 9 = .ok (.if_icmp .eq 7, 3) := by decide +kernel
theorem d_Mdl_bits_12 : decode b_Mdl_bits 12 = .ok (.iconst 1, 1) := by decide +kernel
theorem d_Mdl_bits_13 : decode b_Mdl_bits 13 = .ok (.goto 14, 3) := by decide +kernel
theorem d_Mdl_bits_16 : decode b_Mdl_bits 16 = .ok (.iconst 0, 1) := by decide +kernel
theorem d_Mdl_bits_17 : decode b_Mdl_bits 17 = .ok (.goto 10, 3) := by decide +kernel
theorem d_Mdl_bits_20 : decode b_Mdl_bits 20 = .ok (.iload_n 1, 1) := by decide +kernel
theorem d_Mdl_bits_21 : decode b_Mdl_bits 21 = .ok (.iconst 0, 1) := by decide +kernel
theorem d_Mdl_bits_22 : decode b_Mdl_bits 22 = .ok (.bipush 18, 2) := by decide +kernel
theorem d_Mdl_bits_24 : decode b_Mdl_bits 24 = .ok (.invokestatic 40, 3) := by decide +kernel
theorem d_Mdl_bits_27 : decode b_Mdl_bits 27 = .ok (.istore_n 3, 1) := by decide +kernel
theorem d_Mdl_bits_28 : decode b_Mdl_bits 28 = .ok (.aload_n 0, 1) := by decide +kernel
theorem d_Mdl_bits_29 : decode b_Mdl_bits 29 = .ok (.aload_n 0, 1) := by decide +kernel
theorem d_Mdl_bits_30 : decode b_Mdl_bits 30 = .ok (.getfield 37, 3) := by decide +kernel
theorem d_Mdl_bits_33 : decode b_Mdl_bits 33 = .ok (.ifCond .ne 7, 3) := by decide +kernel
theorem d_Mdl_bits_36 : decode b_Mdl_bits 36 = .ok (.iconst 1, 1) := by decide +kernel
theorem d_Mdl_bits_37 : decode b_Mdl_bits 37 = .ok (.goto 4, 3) := by decide +kernel
theorem d_Mdl_bits_40 : decode b_Mdl_bits 40 = .ok (.iconst 0, 1) := by decide +kernel
theorem d_Mdl_bits_41 : decode b_Mdl_bits 41 = .ok (.iload_n 3, 1) := by decide +kernel
theorem d_Mdl_bits_42 : decode b_Mdl_bits 42 = .ok (.ifCond .ne 13, 3) := by decide +kernel
theorem d_Mdl_bits_45 : decode b_Mdl_bits 45 = .ok (.iload_n 2, 1) := by decide +kernel
theorem d_Mdl_bits_46 : decode b_Mdl_bits 46 = .ok (.iconst 1, 1) := by decide +kernel
theorem d_Mdl_bits_47 : decode b_Mdl_bits 47 = .ok (.bipush 64, 2) := by decide +kernel
theorem d_Mdl_bits_49 : decode b_Mdl_bits 49 = .ok (.invokestatic 40, 3) := by decide +kernel
theorem d_Mdl_bits_52 : decode b_Mdl_bits 52 = .ok (.ifCond .eq 7, 3) := by decide +kernel
theorem d_Mdl_bits_55 : decode b_Mdl_bits 55 = .ok (.iconst 1, 1) := by decide +kernel
theorem d_Mdl_bits_56 : decode b_Mdl_bits 56 = .ok (.goto 4, 3) := by decide +kernel
theorem d_Mdl_bits_59 : decode b_Mdl_bits 59 = .ok (.iconst 0, 1) := by decide +kernel
theorem d_Mdl_bits_60 : decode b_Mdl_bits 60 = .ok (.iconst 0, 1) := by decide +kernel
theorem d_Mdl_bits_61 : decode b_Mdl_bits 61 = .ok (.invokevirtual 44, 3) := by decide +kernel
theorem d_Mdl_bits_64 : decode b_Mdl_bits 64 = .ok (.ifCond .eq 5, 3) := by decide +kernel
theorem d_Mdl_bits_67 : decode b_Mdl_bits 67 = .ok (.lconst 0, 1) := by decide +kernel
theorem d_Mdl_bits_68 : decode b_Mdl_bits 68 = .ok (.lreturn, 1) := by decide +kernel
theorem d_Mdl_bits_69 : decode b_Mdl_bits 69 = .ok (.lconst 0, 1) := by decide +kernel
theorem d_Mdl_bits_70 : decode b_Mdl_bits 70 = .ok (.lstore 4, 2) := by decide +kernel
theorem d_Mdl_bits_72 : decode b_Mdl_bits 72 = .ok (.iconst 0, 1) := by decide +kernel
theorem d_Mdl_bits_73 : decode b_Mdl_bits 73 = .ok (.istore 6, 2) := by decide +kernel
theorem d_Mdl_bits_75 : decode b_Mdl_bits 75 = .ok (.iload 6, 2) := by decide +kernel
theorem d_Mdl_bits_77 : decode b_Mdl_bits 77 = .ok (.iload_n 2, 1) := by decide +kernel
theorem d_Mdl_bits_78 : decode b_Mdl_bits 78 = .ok (.if_icmp .ge 39, 3) := by decide +kernel
theorem d_Mdl_bits_81 : decode b_Mdl_bits 81 = .ok (.lload 4, 2) := by decide +kernel
theorem d_Mdl_bits_83 : decode b_Mdl_bits 83 = .ok (.iconst 1, 1) := by decide +kernel
theorem d_Mdl_bits_84 : decode b_Mdl_bits 84 = .ok (.lshl, 1) := by decide +kernel
theorem d_Mdl_bits_85 : decode b_Mdl_bits 85 = .ok (.aload_n 0, 1) := by decide +kernel
theorem d_Mdl_bits_86 : decode b_Mdl_bits 86 = .ok (.getfield 114, 3) := by decide +kernel
theorem d_Mdl_bits_89 : decode b_Mdl_bits 89 = .ok (.ifCond .eq 10, 3) := by decide +kernel
theorem d_Mdl_bits_92 : decode b_Mdl_bits 92 = .ok (.aload_n 0, 1) := by decide +kernel
theorem d_Mdl_bits_93 : decode b_Mdl_bits 93 = .ok (.invokevirtual 149, 3) := by decide +kernel
theorem d_Mdl_bits_96 : decode b_Mdl_bits 96 = .ok (.goto 11, 3) := by decide +kernel
theorem d_Mdl_bits_99 : decode b_Mdl_bits 99 = .ok (.aload_n 0, 1) := by decide +kernel
theorem d_Mdl_bits_100 : decode b_Mdl_bits 100 = .ok (.bipush 19, 2) := by decide +kernel
theorem d_Mdl_bits_102 : decode b_Mdl_bits 102 = .ok (.iload_n 1, 1) := by decide +kernel
theorem d_Mdl_bits_103 : decode b_Mdl_bits 103 = .ok (.iadd, 1) := by decide +kernel
theorem d_Mdl_bits_104 : decode b_Mdl_bits 104 = .ok (.invokevirtual 152, 3) := by decide +kernel
theorem d_Mdl_bits_107 : decode b_Mdl_bits 107 = .ok (.i2l, 1) := by decide +kernel
theorem d_Mdl_bits_108 : decode b_Mdl_bits 108 = .ok (.lor, 1) := by decide +kernel
theorem d_Mdl_bits_109 : decode b_Mdl_bits 109 = .ok (.lstore 4, 2) := by decide +kernel
theorem d_Mdl_bits_111 : decode b_Mdl_bits 111 = .ok (.iinc 6 1, 3) := by decide +kernel
theorem d_Mdl_bits_114 : decode b_Mdl_bits 114 = .ok (.goto (-39), 3) := by decide +kernel
theorem d_Mdl_bits_117 : decode b_Mdl_bits 117 = .ok (.lload 4, 2) := by decide +kernel
theorem d_Mdl_bits_119 : decode b_Mdl_bits 119 = .ok (.lreturn, 1) := by decide +kernel
theorem d_Mdl_register_0 : decode b_Mdl_register 0 = .ok (.aload_n 0, 1) := by decide +kernel
theorem d_Mdl_register_1 : decode b_Mdl_register 1 = .ok (.iconst 0, 1) := by decide +kernel
theorem d_Mdl_register_2 : decode b_Mdl_register 2 = .ok (.putfield 26, 3) := by decide +kernel
theorem d_Mdl_register_5 : decode b_Mdl_register 5 = .ok (.aload_n 0, 1) := by decide +kernel
theorem d_Mdl_register_6 : decode b_Mdl_register 6 = .ok (.getfield 33, 3) := by decide +kernel
theorem d_Mdl_register_9 : decode b_Mdl_register 9 = .ok (.ifCond .eq 56, 3) := by decide +kernel
theorem d_Mdl_register_12 : decode b_Mdl_register 12 = .ok (.iload_n 1, 1) := by decide +kernel
theorem d_Mdl_register_13 : decode b_Mdl_register 13 = .ok (.ifCond .lt 52, 3) := by decide +kernel
theorem d_Mdl_register_16 : decode b_Mdl_register 16 = .ok (.iload_n 1, 1) := by decide +kernel
theorem d_Mdl_register_17 : decode b_Mdl_register 17 = .ok (.iconst 2, 1) := by decide +kernel
theorem d_Mdl_register_18 : decode b_Mdl_register 18 = .ok (.if_icmp .gt 47, 3) := by decide +kernel
theorem d_Mdl_register_21 : decode b_Mdl_register 21 = .ok (.iload_n 1, 1) := by decide +kernel
theorem d_Mdl_register_22 : decode b_Mdl_register 22 = .ok (.iconst 2, 1) := by decide +kernel
theorem d_Mdl_register_23 : decode b_Mdl_register 23 = .ok (.if_icmp .ne 10, 3) := by decide +kernel
theorem d_Mdl_register_26 : decode b_Mdl_register 26 = .ok (.aload_n 0, 1) := by decide +kernel
theorem d_Mdl_register_27 : decode b_Mdl_register 27 = .ok (.getfield 63, 3) := by decide +kernel
theorem d_Mdl_register_30 : decode b_Mdl_register 30 = .ok (.goto 34, 3) := by decide +kernel
theorem d_Mdl_register_33 : decode b_Mdl_register 33 = .ok (.aload_n 0, 1) := by decide +kernel
theorem d_Mdl_register_34 : decode b_Mdl_register 34 = .ok (.getfield 93, 3) := by decide +kernel
theorem d_Mdl_register_37 : decode b_Mdl_register 37 = .ok (.ifCond .eq 7, 3) := by decide +kernel
theorem d_Mdl_register_40 : decode b_Mdl_register 40 = .ok (.iconst (-1), 1) := by decide +kernel
theorem d_Mdl_register_41 : decode b_Mdl_register 41 = .ok (.goto 23, 3) := by decide +kernel
theorem d_Mdl_register_44 : decode b_Mdl_register 44 = .ok (.iload_n 1, 1) := by decide +kernel
theorem d_Mdl_register_45 : decode b_Mdl_register 45 = .ok (.ifCond .ne 15, 3) := by decide +kernel
theorem d_Mdl_register_48 : decode b_Mdl_register 48 = .ok (.aload_n 0, 1) := by decide +kernel
theorem d_Mdl_register_49 : decode b_Mdl_register 49 = .ok (.getfield 73, 3) := by decide +kernel
theorem d_Mdl_register_52 : decode b_Mdl_register 52 = .ok (.aload_n 0, 1) := by decide +kernel
theorem d_Mdl_register_53 : decode b_Mdl_register 53 = .ok (.invokevirtual 69, 3) := by decide +kernel
theorem d_Mdl_register_56 : decode b_Mdl_register 56 = .ok (.iadd, 1) := by decide +kernel
theorem d_Mdl_register_57 : decode b_Mdl_register 57 = .ok (.goto 7, 3) := by decide +kernel
theorem d_Mdl_register_60 : decode b_Mdl_register 60 = .ok (.aload_n 0, 1) := by decide +kernel
theorem d_Mdl_register_61 : decode b_Mdl_register 61 = .ok (.getfield 79, 3) := by decide +kernel
theorem d_Mdl_register_64 : decode b_Mdl_register 64 = .ok (.ireturn, 1) := by decide +kernel
theorem d_Mdl_register_65 : decode b_Mdl_register 65 = .ok (.aload_n 0, 1) := by decide +kernel
theorem d_Mdl_register_66 : decode b_Mdl_register 66 = .ok (.getfield 37, 3) := by decide +kernel
theorem d_Mdl_register_69 : decode b_Mdl_register 69 = .ok (.ifCond .eq 31, 3) := by decide +kernel
theorem d_Mdl_register_72 : decode b_Mdl_register 72 = .ok (.iload_n 1, 1) := by decide +kernel
theorem d_Mdl_register_73 : decode b_Mdl_register 73 = .ok (.iconst 3, 1) := by decide +kernel
theorem d_Mdl_register_74 : decode b_Mdl_register 74 = .ok (.if_icmp .ne 26, 3) := by decide +kernel
theorem d_Mdl_register_77 : decode b_Mdl_register 77 = .ok (.aload_n 0, 1) := by decide +kernel
theorem d_Mdl_register_78 : decode b_Mdl_register 78 = .ok (.getfield 117, 3) := by decide +kernel
theorem d_Mdl_register_81 : decode b_Mdl_register 81 = .ok (.aload_n 0, 1) := by decide +kernel
theorem d_Mdl_register_82 : decode b_Mdl_register 82 = .ok (.getfield 108, 3) := by decide +kernel
theorem d_Mdl_register_85 : decode b_Mdl_register 85 = .ok (.if_icmp .ge 10, 3) := by decide +kernel
theorem d_Mdl_register_88 : decode b_Mdl_register 88 = .ok (.aload_n 0, 1) := by decide +kernel
theorem d_Mdl_register_89 : decode b_Mdl_register 89 = .ok (.getfield 117, 3) := by decide +kernel
theorem d_Mdl_register_92 : decode b_Mdl_register 92 = .ok (.goto 7, 3) := by decide +kernel
theorem d_Mdl_register_95 : decode b_Mdl_register 95 = .ok (.aload_n 0, 1) := by decide +kernel
theorem d_Mdl_register_96 : decode b_Mdl_register 96 = .ok (.getfield 108, 3) := by decide +kernel
theorem d_Mdl_register_99 : decode b_Mdl_register 99 = .ok (.ireturn, 1) := by decide +kernel
theorem d_Mdl_register_100 : decode b_Mdl_register 100 = .ok (.aload_n 0, 1) := by decide +kernel
theorem d_Mdl_register_101 : decode b_Mdl_register 101 = .ok (.getfield 37, 3) := by decide +kernel
theorem d_Mdl_register_104 : decode b_Mdl_register 104 = .ok (.ifCond .eq 26, 3) := by decide +kernel
theorem d_Mdl_register_107 : decode b_Mdl_register 107 = .ok (.iload_n 1, 1) := by decide +kernel
theorem d_Mdl_register_108 : decode b_Mdl_register 108 = .ok (.iconst 4, 1) := by decide +kernel
theorem d_Mdl_register_109 : decode b_Mdl_register 109 = .ok (.if_icmp .ne 21, 3) := by decide +kernel
theorem d_Mdl_register_112 : decode b_Mdl_register 112 = .ok (.aload_n 0, 1) := by decide +kernel
theorem d_Mdl_register_113 : decode b_Mdl_register 113 = .ok (.getfield 114, 3) := by decide +kernel
theorem d_Mdl_register_116 : decode b_Mdl_register 116 = .ok (.ifCond .eq 7, 3) := by decide +kernel
theorem d_Mdl_register_119 : decode b_Mdl_register 119 = .ok (.iconst (-1), 1) := by decide +kernel
theorem d_Mdl_register_120 : decode b_Mdl_register 120 = .ok (.goto 11, 3) := by decide +kernel
theorem d_Mdl_register_123 : decode b_Mdl_register 123 = .ok (.aload_n 0, 1) := by decide +kernel
theorem d_Mdl_register_124 : decode b_Mdl_register 124 = .ok (.getfield 126, 3) := by decide +kernel
theorem d_Mdl_register_127 : decode b_Mdl_register 127 = .ok (.goto 4, 3) := by decide +kernel
theorem d_Mdl_register_130 : decode b_Mdl_register 130 = .ok (.iconst (-1), 1) := by decide +kernel
theorem d_Mdl_register_131 : decode b_Mdl_register 131 = .ok (.ireturn, 1) := by decide +kernel
theorem d_Law_put_0 : decode b_Law_put 0 = .ok (.aload_n 2, 1) := by decide +kernel
theorem d_Law_put_1 : decode b_Law_put 1 = .ok (.iconst 0, 1) := by decide +kernel
theorem d_Law_put_2 : decode b_Law_put 2 = .ok (.aload_n 0, 1) := by decide +kernel
theorem d_Law_put_3 : decode b_Law_put 3 = .ok (.iload_n 1, 1) := by decide +kernel
theorem d_Law_put_4 : decode b_Law_put 4 = .ok (.invokevirtual 7, 3) := by decide +kernel
theorem d_Law_put_7 : decode b_Law_put 7 = .ok (.i2l, 1) := by decide +kernel
theorem d_Law_put_8 : decode b_Law_put 8 = .ok (.lastore, 1) := by decide +kernel
theorem d_Law_put_9 : decode b_Law_put 9 = .ok (.goto 12, 3) := by decide +kernel
theorem d_Law_put_12 : decode b_Law_put 12 = .ok (.astore_n 3, 1) := by decide +kernel
theorem d_Law_put_13 : decode b_Law_put 13 = .ok (.iconst 1, 1) := by decide +kernel
theorem d_Law_put_14 : decode b_Law_put 14 = .ok (.ireturn, 1) := by decide +kernel
theorem d_Law_put_15 : decode b_Law_put 15 = .ok (.astore_n 3, 1) := by decide +kernel
theorem d_Law_put_16 : decode b_Law_put 16 = .ok (.iconst 2, 1) := by decide +kernel
theorem d_Law_put_17 : decode b_Law_put 17 = .ok (.ireturn, 1) := by decide +kernel
theorem d_Law_put_18 : decode b_Law_put 18 = .ok (.astore_n 3, 1) := by decide +kernel
theorem d_Law_put_19 : decode b_Law_put 19 = .ok (.iconst 3, 1) := by decide +kernel
theorem d_Law_put_20 : decode b_Law_put 20 = .ok (.ireturn, 1) := by decide +kernel
theorem d_Law_put_21 : decode b_Law_put 21 = .ok (.iconst 0, 1) := by decide +kernel
theorem d_Law_put_22 : decode b_Law_put 22 = .ok (.ireturn, 1) := by decide +kernel
theorem d_Law_at_0 : decode b_Law_at 0 = .ok (.aload_n 2, 1) := by decide +kernel
theorem d_Law_at_1 : decode b_Law_at 1 = .ok (.iconst 0, 1) := by decide +kernel
theorem d_Law_at_2 : decode b_Law_at 2 = .ok (.aload_n 0, 1) := by decide +kernel
theorem d_Law_at_3 : decode b_Law_at 3 = .ok (.iload_n 1, 1) := by decide +kernel
theorem d_Law_at_4 : decode b_Law_at 4 = .ok (.invokevirtual 19, 3) := by decide +kernel
theorem d_Law_at_7 : decode b_Law_at 7 = .ok (.i2l, 1) := by decide +kernel
theorem d_Law_at_8 : decode b_Law_at 8 = .ok (.lastore, 1) := by decide +kernel
theorem d_Law_at_9 : decode b_Law_at 9 = .ok (.goto 6, 3) := by decide +kernel
theorem d_Law_at_12 : decode b_Law_at 12 = .ok (.astore_n 3, 1) := by decide +kernel
theorem d_Law_at_13 : decode b_Law_at 13 = .ok (.iconst 1, 1) := by decide +kernel
theorem d_Law_at_14 : decode b_Law_at 14 = .ok (.ireturn, 1) := by decide +kernel
theorem d_Law_at_15 : decode b_Law_at 15 = .ok (.iconst 0, 1) := by decide +kernel
theorem d_Law_at_16 : decode b_Law_at 16 = .ok (.ireturn, 1) := by decide +kernel
theorem d_Law_context_0 : decode b_Law_context 0 = .ok (.aload_n 0, 1) := by decide +kernel
theorem d_Law_context_1 : decode b_Law_context 1 = .ok (.iload_n 1, 1) := by decide +kernel
theorem d_Law_context_2 : decode b_Law_context 2 = .ok (.iload_n 2, 1) := by decide +kernel
theorem d_Law_context_3 : decode b_Law_context 3 = .ok (.iload_n 3, 1) := by decide +kernel
theorem d_Law_context_4 : decode b_Law_context 4 = .ok (.iload 4, 2) := by decide +kernel
theorem d_Law_context_6 : decode b_Law_context 6 = .ok (.invokevirtual 24, 3) := by decide +kernel
theorem d_Law_context_9 : decode b_Law_context 9 = .ok (.goto 7, 3) := by decide +kernel
theorem d_Law_context_12 : decode b_Law_context 12 = .ok (.astore 5, 2) := by decide +kernel
theorem d_Law_context_14 : decode b_Law_context 14 = .ok (.iconst 1, 1) := by decide +kernel
theorem d_Law_context_15 : decode b_Law_context 15 = .ok (.ireturn, 1) := by decide +kernel
theorem d_Law_context_16 : decode b_Law_context 16 = .ok (.iconst 0, 1) := by decide +kernel
theorem d_Law_context_17 : decode b_Law_context 17 = .ok (.ireturn, 1) := by decide +kernel
theorem d_Law_state_0 : decode b_Law_state 0 = .ok (.aload_n 3, 1) := by decide +kernel
theorem d_Law_state_1 : decode b_Law_state 1 = .ok (.iconst 0, 1) := by decide +kernel
theorem d_Law_state_2 : decode b_Law_state 2 = .ok (.aload_n 0, 1) := by decide +kernel
theorem d_Law_state_3 : decode b_Law_state 3 = .ok (.iload_n 1, 1) := by decide +kernel
theorem d_Law_state_4 : decode b_Law_state 4 = .ok (.iload_n 2, 1) := by decide +kernel
theorem d_Law_state_5 : decode b_Law_state 5 = .ok (.invokevirtual 28, 3) := by decide +kernel
theorem d_Law_state_8 : decode b_Law_state 8 = .ok (.i2l, 1) := by decide +kernel
theorem d_Law_state_9 : decode b_Law_state 9 = .ok (.lastore, 1) := by decide +kernel
theorem d_Law_state_10 : decode b_Law_state 10 = .ok (.goto 7, 3) := by decide +kernel
theorem d_Law_state_13 : decode b_Law_state 13 = .ok (.astore 4, 2) := by decide +kernel
theorem d_Law_state_15 : decode b_Law_state 15 = .ok (.iconst 1, 1) := by decide +kernel
theorem d_Law_state_16 : decode b_Law_state 16 = .ok (.ireturn, 1) := by decide +kernel
theorem d_Law_state_17 : decode b_Law_state 17 = .ok (.iconst 0, 1) := by decide +kernel
theorem d_Law_state_18 : decode b_Law_state 18 = .ok (.ireturn, 1) := by decide +kernel
theorem d_Law_open_0 : decode b_Law_open 0 = .ok (.aload_n 0, 1) := by decide +kernel
theorem d_Law_open_1 : decode b_Law_open 1 = .ok (.iload_n 1, 1) := by decide +kernel
theorem d_Law_open_2 : decode b_Law_open 2 = .ok (.invokevirtual 32, 3) := by decide +kernel
theorem d_Law_open_5 : decode b_Law_open 5 = .ok (.goto 6, 3) := by decide +kernel
theorem d_Law_open_8 : decode b_Law_open 8 = .ok (.astore_n 2, 1) := by decide +kernel
theorem d_Law_open_9 : decode b_Law_open 9 = .ok (.iconst 1, 1) := by decide +kernel
theorem d_Law_open_10 : decode b_Law_open 10 = .ok (.ireturn, 1) := by decide +kernel
theorem d_Law_open_11 : decode b_Law_open 11 = .ok (.iconst 0, 1) := by decide +kernel
theorem d_Law_open_12 : decode b_Law_open 12 = .ok (.ireturn, 1) := by decide +kernel
theorem d_Law_write_0 : decode b_Law_write 0 = .ok (.aload 5, 2) := by decide +kernel
theorem d_Law_write_2 : decode b_Law_write 2 = .ok (.iconst 0, 1) := by decide +kernel
theorem d_Law_write_3 : decode b_Law_write 3 = .ok (.aload_n 0, 1) := by decide +kernel
theorem d_Law_write_4 : decode b_Law_write 4 = .ok (.iload_n 1, 1) := by decide +kernel
theorem d_Law_write_5 : decode b_Law_write 5 = .ok (.lload_n 2, 1) := by decide +kernel
theorem d_Law_write_6 : decode b_Law_write 6 = .ok (.iload 4, 2) := by decide +kernel
theorem d_Law_write_8 : decode b_Law_write 8 = .ok (.invokevirtual 36, 3) := by decide +kernel
theorem d_Law_write_11 : decode b_Law_write 11 = .ok (.i2l, 1) := by decide +kernel
theorem d_Law_write_12 : decode b_Law_write 12 = .ok (.lastore, 1) := by decide +kernel
theorem d_Law_write_13 : decode b_Law_write 13 = .ok (.goto 15, 3) := by decide +kernel
theorem d_Law_write_16 : decode b_Law_write 16 = .ok (.astore 6, 2) := by decide +kernel
theorem d_Law_write_18 : decode b_Law_write 18 = .ok (.iconst 1, 1) := by decide +kernel
theorem d_Law_write_19 : decode b_Law_write 19 = .ok (.ireturn, 1) := by decide +kernel
theorem d_Law_write_20 : decode b_Law_write 20 = .ok (.astore 6, 2) := by decide +kernel
theorem d_Law_write_22 : decode b_Law_write 22 = .ok (.iconst 2, 1) := by decide +kernel
theorem d_Law_write_23 : decode b_Law_write 23 = .ok (.ireturn, 1) := by decide +kernel
theorem d_Law_write_24 : decode b_Law_write 24 = .ok (.astore 6, 2) := by decide +kernel
theorem d_Law_write_26 : decode b_Law_write 26 = .ok (.iconst 3, 1) := by decide +kernel
theorem d_Law_write_27 : decode b_Law_write 27 = .ok (.ireturn, 1) := by decide +kernel
theorem d_Law_write_28 : decode b_Law_write 28 = .ok (.iconst 0, 1) := by decide +kernel
theorem d_Law_write_29 : decode b_Law_write 29 = .ok (.ireturn, 1) := by decide +kernel
theorem d_Law_enough_0 : decode b_Law_enough 0 = .ok (.aload_n 1, 1) := by decide +kernel
theorem d_Law_enough_1 : decode b_Law_enough 1 = .ok (.iconst 0, 1) := by decide +kernel
theorem d_Law_enough_2 : decode b_Law_enough 2 = .ok (.aload_n 0, 1) := by decide +kernel
theorem d_Law_enough_3 : decode b_Law_enough 3 = .ok (.invokevirtual 40, 3) := by decide +kernel
theorem d_Law_enough_6 : decode b_Law_enough 6 = .ok (.i2l, 1) := by decide +kernel
theorem d_Law_enough_7 : decode b_Law_enough 7 = .ok (.lastore, 1) := by decide +kernel
theorem d_Law_enough_8 : decode b_Law_enough 8 = .ok (.goto 6, 3) := by decide +kernel
theorem d_Law_enough_11 : decode b_Law_enough 11 = .ok (.astore_n 2, 1) := by decide +kernel
theorem d_Law_enough_12 : decode b_Law_enough 12 = .ok (.iconst 1, 1) := by decide +kernel
theorem d_Law_enough_13 : decode b_Law_enough 13 = .ok (.ireturn, 1) := by decide +kernel
theorem d_Law_enough_14 : decode b_Law_enough 14 = .ok (.iconst 0, 1) := by decide +kernel
theorem d_Law_enough_15 : decode b_Law_enough 15 = .ok (.ireturn, 1) := by decide +kernel
theorem d_Law_close_0 : decode b_Law_close 0 = .ok (.aload_n 2, 1) := by decide +kernel
theorem d_Law_close_1 : decode b_Law_close 1 = .ok (.iconst 0, 1) := by decide +kernel
theorem d_Law_close_2 : decode b_Law_close 2 = .ok (.aload_n 0, 1) := by decide +kernel
theorem d_Law_close_3 : decode b_Law_close 3 = .ok (.iload_n 1, 1) := by decide +kernel
theorem d_Law_close_4 : decode b_Law_close 4 = .ok (.invokevirtual 44, 3) := by decide +kernel
theorem d_Law_close_7 : decode b_Law_close 7 = .ok (.i2l, 1) := by decide +kernel
theorem d_Law_close_8 : decode b_Law_close 8 = .ok (.lastore, 1) := by decide +kernel
theorem d_Law_close_9 : decode b_Law_close 9 = .ok (.goto 9, 3) := by decide +kernel
theorem d_Law_close_12 : decode b_Law_close 12 = .ok (.astore_n 3, 1) := by decide +kernel
theorem d_Law_close_13 : decode b_Law_close 13 = .ok (.iconst 1, 1) := by decide +kernel
theorem d_Law_close_14 : decode b_Law_close 14 = .ok (.ireturn, 1) := by decide +kernel
theorem d_Law_close_15 : decode b_Law_close 15 = .ok (.astore_n 3, 1) := by decide +kernel
theorem d_Law_close_16 : decode b_Law_close 16 = .ok (.iconst 2, 1) := by decide +kernel
theorem d_Law_close_17 : decode b_Law_close 17 = .ok (.ireturn, 1) := by decide +kernel
theorem d_Law_close_18 : decode b_Law_close 18 = .ok (.iconst 0, 1) := by decide +kernel
theorem d_Law_close_19 : decode b_Law_close 19 = .ok (.ireturn, 1) := by decide +kernel
theorem d_Law_read_0 : decode b_Law_read 0 = .ok (.aload_n 0, 1) := by decide +kernel
theorem d_Law_read_1 : decode b_Law_read 1 = .ok (.iload_n 1, 1) := by decide +kernel
theorem d_Law_read_2 : decode b_Law_read 2 = .ok (.iload_n 2, 1) := by decide +kernel
theorem d_Law_read_3 : decode b_Law_read 3 = .ok (.iload_n 3, 1) := by decide +kernel
theorem d_Law_read_4 : decode b_Law_read 4 = .ok (.invokevirtual 47, 3) := by decide +kernel
theorem d_Law_read_7 : decode b_Law_read 7 = .ok (.goto 11, 3) := by decide +kernel
theorem d_Law_read_10 : decode b_Law_read 10 = .ok (.astore 4, 2) := by decide +kernel
theorem d_Law_read_12 : decode b_Law_read 12 = .ok (.iconst 1, 1) := by decide +kernel
theorem d_Law_read_13 : decode b_Law_read 13 = .ok (.ireturn, 1) := by decide +kernel
theorem d_Law_read_14 : decode b_Law_read 14 = .ok (.astore 4, 2) := by decide +kernel
theorem d_Law_read_16 : decode b_Law_read 16 = .ok (.iconst 2, 1) := by decide +kernel
theorem d_Law_read_17 : decode b_Law_read 17 = .ok (.ireturn, 1) := by decide +kernel
theorem d_Law_read_18 : decode b_Law_read 18 = .ok (.iconst 0, 1) := by decide +kernel
theorem d_Law_read_19 : decode b_Law_read 19 = .ok (.ireturn, 1) := by decide +kernel
theorem d_Law_bits_0 : decode b_Law_bits 0 = .ok (.aload_n 3, 1) := by decide +kernel
theorem d_Law_bits_1 : decode b_Law_bits 1 = .ok (.iconst 0, 1) := by decide +kernel
theorem d_Law_bits_2 : decode b_Law_bits 2 = .ok (.aload_n 0, 1) := by decide +kernel
theorem d_Law_bits_3 : decode b_Law_bits 3 = .ok (.iload_n 1, 1) := by decide +kernel
theorem d_Law_bits_4 : decode b_Law_bits 4 = .ok (.iload_n 2, 1) := by decide +kernel
theorem d_Law_bits_5 : decode b_Law_bits 5 = .ok (.invokevirtual 51, 3) := by decide +kernel
theorem d_Law_bits_8 : decode b_Law_bits 8 = .ok (.lastore, 1) := by decide +kernel
theorem d_Law_bits_9 : decode b_Law_bits 9 = .ok (.goto 11, 3) := by decide +kernel
theorem d_Law_bits_12 : decode b_Law_bits 12 = .ok (.astore 4, 2) := by decide +kernel
theorem d_Law_bits_14 : decode b_Law_bits 14 = .ok (.iconst 1, 1) := by decide +kernel
theorem d_Law_bits_15 : decode b_Law_bits 15 = .ok (.ireturn, 1) := by decide +kernel
theorem d_Law_bits_16 : decode b_Law_bits 16 = .ok (.astore 4, 2) := by decide +kernel
theorem d_Law_bits_18 : decode b_Law_bits 18 = .ok (.iconst 2, 1) := by decide +kernel
theorem d_Law_bits_19 : decode b_Law_bits 19 = .ok (.ireturn, 1) := by decide +kernel
theorem d_Law_bits_20 : decode b_Law_bits 20 = .ok (.iconst 0, 1) := by decide +kernel
theorem d_Law_bits_21 : decode b_Law_bits 21 = .ok (.ireturn, 1) := by decide +kernel
theorem d_Law_law_0 : decode b_Law_law 0 = .ok (.new 8, 3) := by decide +kernel
theorem d_Law_law_3 : decode b_Law_law 3 = .ok (.dup, 1) := by decide +kernel
theorem d_Law_law_4 : decode b_Law_law 4 = .ok (.invokespecial 55, 3) := by decide +kernel
theorem d_Law_law_7 : decode b_Law_law 7 = .ok (.astore_n 1, 1) := by decide +kernel
theorem d_Law_law_8 : decode b_Law_law 8 = .ok (.new 56, 3) := by decide +kernel
theorem d_Law_law_11 : decode b_Law_law 11 = .ok (.dup, 1) := by decide +kernel
theorem d_Law_law_12 : decode b_Law_law 12 = .ok (.invokespecial 58, 3) := by decide +kernel
theorem d_Law_law_15 : decode b_Law_law 15 = .ok (.astore_n 2, 1) := by decide +kernel
theorem d_Law_law_16 : decode b_Law_law 16 = .ok (.iconst 1, 1) := by decide +kernel
theorem d_Law_law_17 : decode b_Law_law 17 = .ok (.newarray .long, 2) := by decide +kernel
theorem d_Law_law_19 : decode b_Law_law 19 = .ok (.astore_n 3, 1) := by decide +kernel
theorem d_Law_law_20 : decode b_Law_law 20 = .ok (.iconst 0, 1) := by decide +kernel
theorem d_Law_law_21 : decode b_Law_law 21 = .ok (.istore 4, 2) := by decide +kernel
theorem d_Law_law_23 : decode b_Law_law 23 = .ok (.iload 4, 2) := by decide +kernel
theorem d_Law_law_25 : decode b_Law_law 25 = .ok (.aload_n 0, 1) := by decide +kernel
theorem d_Law_law_26 : decode b_Law_law 26 = .ok (.arraylength, 1) := by decide +kernel
theorem d_Law_law_27 : decode b_Law_law 27 = .ok (.iconst 5, 1) := by decide +kernel
theorem d_Law_law_28 : decode b_Law_law 28 = .ok (.isub, 1) := by decide +kernel
theorem d_Law_law_29 : decode b_Law_law 29 = .ok (.if_icmp .gt 804, 3) := by decide +kernel
theorem d_Law_law_32 : decode b_Law_law 32 = .ok (.aload_n 0, 1) := by decide +kernel
theorem d_Law_law_33 : decode b_Law_law 33 = .ok (.iload 4, 2) := by decide +kernel
theorem d_Law_law_35 : decode b_Law_law 35 = .ok (.iaload, 1) := by decide +kernel
theorem d_Law_law_36 : decode b_Law_law 36 = .ok (.bipush 15, 2) := by decide +kernel
theorem d_Law_law_38 : decode b_Law_law 38 = .ok (.iand, 1) := by decide +kernel
theorem d_Law_law_39 : decode b_Law_law 39 = .ok (.tableswitch 788 0 11 #[61, 72, 128, 184, 272, 356, 408, 520, 564, 620, 696, 763], 61) := by decide +kernel
theorem d_Law_law_100 : decode b_Law_law 100 = .ok (.aload_n 1, 1) := by decide +kernel
theorem d_Law_law_101 : decode b_Law_law 101 = .ok (.invokevirtual 59, 3) := by decide +kernel
theorem d_Law_law_104 : decode b_Law_law 104 = .ok (.aload_n 2, 1) := by decide +kernel
theorem d_Law_law_105 : decode b_Law_law 105 = .ok (.invokevirtual 62, 3) := by decide +kernel
theorem d_Law_law_108 : decode b_Law_law 108 = .ok (.goto 719, 3) := by decide +kernel
theorem d_Law_law_111 : decode b_Law_law 111 = .ok (.aload_n 1, 1) := by decide +kernel
theorem d_Law_law_112 : decode b_Law_law 112 = .ok (.aload_n 0, 1) := by decide +kernel
theorem d_Law_law_113 : decode b_Law_law 113 = .ok (.iload 4, 2) := by decide +kernel
theorem d_Law_law_115 : decode b_Law_law 115 = .ok (.iconst 1, 1) := by decide +kernel
theorem d_Law_law_116 : decode b_Law_law 116 = .ok (.iadd, 1) := by decide +kernel
theorem d_Law_law_117 : decode b_Law_law 117 = .ok (.iaload, 1) := by decide +kernel
theorem d_Law_law_118 : decode b_Law_law 118 = .ok (.aload_n 3, 1) := by decide +kernel
theorem d_Law_law_119 : decode b_Law_law 119 = .ok (.invokestatic 63, 3) := by decide +kernel
theorem d_Law_law_122 : decode b_Law_law 122 = .ok (.istore 5, 2) := by decide +kernel
theorem d_Law_law_124 : decode b_Law_law 124 = .ok (.aload_n 2, 1) := by decide +kernel
theorem d_Law_law_125 : decode b_Law_law 125 = .ok (.aload_n 0, 1) := by decide +kernel
theorem d_Law_law_126 : decode b_Law_law 126 = .ok (.iload 4, 2) := by decide +kernel
theorem d_Law_law_128 : decode b_Law_law 128 = .ok (.iconst 1, 1) := by decide +kernel
theorem d_Law_law_129 : decode b_Law_law 129 = .ok (.iadd, 1) := by decide +kernel
theorem d_Law_law_130 : decode b_Law_law 130 = .ok (.iaload, 1) := by decide +kernel
theorem d_Law_law_131 : decode b_Law_law 131 = .ok (.invokevirtual 68, 3) := by decide +kernel
theorem d_Law_law_134 : decode b_Law_law 134 = .ok (.istore 6, 2) := by decide +kernel
theorem d_Law_law_136 : decode b_Law_law 136 = .ok (.aload_n 2, 1) := by decide +kernel
theorem d_Law_law_137 : decode b_Law_law 137 = .ok (.invokevirtual 69, 3) := by decide +kernel
theorem d_Law_law_140 : decode b_Law_law 140 = .ok (.iload 5, 2) := by decide +kernel
theorem d_Law_law_142 : decode b_Law_law 142 = .ok (.if_icmp .eq 5, 3) := by decide +kernel
theorem d_Law_law_145 : decode b_Law_law 145 = .ok (.iconst 0, 1) := by decide +kernel
theorem d_Law_law_146 : decode b_Law_law 146 = .ok (.ireturn, 1) := by decide +kernel
theorem d_Law_law_147 : decode b_Law_law 147 = .ok (.iload 5, 2) := by decide +kernel
theorem d_Law_law_149 : decode b_Law_law 149 = .ok (.ifCond .ne 15, 3) := by decide +kernel
theorem d_Law_law_152 : decode b_Law_law 152 = .ok (.aload_n 3, 1) := by decide +kernel
theorem d_Law_law_153 : decode b_Law_law 153 = .ok (.iconst 0, 1) := by decide +kernel
theorem d_Law_law_154 : decode b_Law_law 154 = .ok (.laload, 1) := by decide +kernel
theorem d_Law_law_155 : decode b_Law_law 155 = .ok (.iload 6, 2) := by decide +kernel
theorem d_Law_law_157 : decode b_Law_law 157 = .ok (.i2l, 1) := by decide +kernel
theorem d_Law_law_158 : decode b_Law_law 158 = .ok (.lcmp, 1) := by decide +kernel
theorem d_Law_law_159 : decode b_Law_law 159 = .ok (.ifCond .eq 5, 3) := by decide +kernel
theorem d_Law_law_162 : decode b_Law_law 162 = .ok (.iconst 0, 1) := by decide +kernel
theorem d_Law_law_163 : decode b_Law_law 163 = .ok (.ireturn, 1) := by decide +kernel
theorem d_Law_law_164 : decode b_Law_law 164 = .ok (.goto 663, 3) := by decide +kernel
theorem d_Law_law_167 : decode b_Law_law 167 = .ok (.aload_n 1, 1) := by decide +kernel
theorem d_Law_law_168 : decode b_Law_law 168 = .ok (.aload_n 0, 1) := by decide +kernel
theorem d_Law_law_169 : decode b_Law_law 169 = .ok (.iload 4, 2) := by decide +kernel
theorem d_Law_law_171 : decode b_Law_law 171 = .ok (.iconst 1, 1) := by decide +kernel
theorem d_Law_law_172 : decode b_Law_law 172 = .ok (.iadd, 1) := by decide +kernel
theorem d_Law_law_173 : decode b_Law_law 173 = .ok (.iaload, 1) := by decide +kernel
theorem d_Law_law_174 : decode b_Law_law 174 = .ok (.aload_n 3, 1) := by decide +kernel
theorem d_Law_law_175 : decode b_Law_law 175 = .ok (.invokestatic 72, 3) := by decide +kernel
theorem d_Law_law_178 : decode b_Law_law 178 = .ok (.istore 5, 2) := by decide +kernel
theorem d_Law_law_180 : decode b_Law_law 180 = .ok (.aload_n 2, 1) := by decide +kernel
theorem d_Law_law_181 : decode b_Law_law 181 = .ok (.aload_n 0, 1) := by decide +kernel
theorem d_Law_law_182 : decode b_Law_law 182 = .ok (.iload 4, 2) := by decide +kernel
theorem d_Law_law_184 : decode b_Law_law 184 = .ok (.iconst 1, 1) := by decide +kernel
theorem d_Law_law_185 : decode b_Law_law 185 = .ok (.iadd, 1) := by decide +kernel
theorem d_Law_law_186 : decode b_Law_law 186 = .ok (.iaload, 1) := by decide +kernel
theorem d_Law_law_187 : decode b_Law_law 187 = .ok (.invokevirtual 74, 3) := by decide +kernel
theorem d_Law_law_190 : decode b_Law_law 190 = .ok (.istore 6, 2) := by decide +kernel
theorem d_Law_law_192 : decode b_Law_law 192 = .ok (.aload_n 2, 1) := by decide +kernel
theorem d_Law_law_193 : decode b_Law_law 193 = .ok (.invokevirtual 69, 3) := by decide +kernel
theorem d_Law_law_196 : decode b_Law_law 196 = .ok (.iload 5, 2) := by decide +kernel
theorem d_Law_law_198 : decode b_Law_law 198 = .ok (.if_icmp .eq 5, 3) := by decide +kernel
theorem d_Law_law_201 : decode b_Law_law 201 = .ok (.iconst 0, 1) := by decide +kernel
theorem d_Law_law_202 : decode b_Law_law 202 = .ok (.ireturn, 1) := by decide +kernel
end
section
theorem d_Law_law_203 : decode b_Law_law 203 = .ok (.iload 5, 2) := by decide +kernel
theorem d_Law_law_205 : decode b_Law_law 205 = .ok (.ifCond .ne 15, 3) := by decide +kernel
theorem d_Law_law_208 : decode b_Law_law 208 = .ok (.aload_n 3, 1) := by decide +kernel
theorem d_Law_law_209 : decode b_Law_law 209 = .ok (.iconst 0, 1) := by decide +kernel
theorem d_Law_law_210 : decode b_Law_law 210 = .ok (.laload, 1) := by decide +kernel
theorem d_Law_law_211 : decode b_Law_law 211 = .ok (.iload 6, 2) := by decide +kernel
theorem d_Law_law_213 : decode b_Law_law 213 = .ok (.i2l, 1) := by decide +kernel
theorem d_Law_law_214 : decode b_Law_law 214 = .ok (.lcmp, 1) := by decide +kernel
theorem d_Law_law_215 : decode b_Law_law 215 = .ok (.ifCond .eq 5, 3) := by decide +kernel
theorem d_Law_law_218 : decode b_Law_law 218 = .ok (.iconst 0, 1) := by decide +kernel
theorem d_Law_law_219 : decode b_Law_law 219 = .ok (.ireturn, 1) := by decide +kernel
theorem d_Law_law_220 : decode b_Law_law 220 = .ok (.goto 607, 3) := by decide +kernel
theorem d_Law_law_223 : decode b_Law_law 223 = .ok (.aload_n 1, 1) := by decide +kernel
theorem d_Law_law_224 : decode b_Law_law 224 = .ok (.aload_n 0, 1) := by decide +kernel
theorem d_Law_law_225 : decode b_Law_law 225 = .ok (.iload 4, 2) := by decide +kernel
theorem d_Law_law_227 : decode b_Law_law 227 = .ok (.iconst 1, 1) := by decide +kernel
theorem d_Law_law_228 : decode b_Law_law 228 = .ok (.iadd, 1) := by decide +kernel
theorem d_Law_law_229 : decode b_Law_law 229 = .ok (.iaload, 1) := by decide +kernel
theorem d_Law_law_230 : decode b_Law_law 230 = .ok (.ifCond .eq 7, 3) := by decide +kernel
theorem d_Law_law_233 : decode b_Law_law 233 = .ok (.iconst 1, 1) := by decide +kernel
theorem d_Law_law_234 : decode b_Law_law 234 = .ok (.goto 4, 3) := by decide +kernel
theorem d_Law_law_237 : decode b_Law_law 237 = .ok (.iconst 0, 1) := by decide +kernel
theorem d_Law_law_238 : decode b_Law_law 238 = .ok (.aload_n 0, 1) := by decide +kernel
theorem d_Law_law_239 : decode b_Law_law 239 = .ok (.iload 4, 2) := by decide +kernel
theorem d_Law_law_241 : decode b_Law_law 241 = .ok (.iconst 2, 1) := by decide +kernel
theorem d_Law_law_242 : decode b_Law_law 242 = .ok (.iadd, 1) := by decide +kernel
theorem d_Law_law_243 : decode b_Law_law 243 = .ok (.iaload, 1) := by decide +kernel
theorem d_Law_law_244 : decode b_Law_law 244 = .ok (.aload_n 0, 1) := by decide +kernel
theorem d_Law_law_245 : decode b_Law_law 245 = .ok (.iload 4, 2) := by decide +kernel
theorem d_Law_law_247 : decode b_Law_law 247 = .ok (.iconst 3, 1) := by decide +kernel
theorem d_Law_law_248 : decode b_Law_law 248 = .ok (.iadd, 1) := by decide +kernel
theorem d_Law_law_249 : decode b_Law_law 249 = .ok (.iaload, 1) := by decide +kernel
theorem d_Law_law_250 : decode b_Law_law 250 = .ok (.aload_n 0, 1) := by decide +kernel
theorem d_Law_law_251 : decode b_Law_law 251 = .ok (.iload 4, 2) := by decide +kernel
theorem d_Law_law_253 : decode b_Law_law 253 = .ok (.iconst 4, 1) := by decide +kernel
theorem d_Law_law_254 : decode b_Law_law 254 = .ok (.iadd, 1) := by decide +kernel
theorem d_Law_law_255 : decode b_Law_law 255 = .ok (.iaload, 1) := by decide +kernel
theorem d_Law_law_256 : decode b_Law_law 256 = .ok (.invokestatic 75, 3) := by decide +kernel
theorem d_Law_law_259 : decode b_Law_law 259 = .ok (.istore 5, 2) := by decide +kernel
theorem d_Law_law_261 : decode b_Law_law 261 = .ok (.aload_n 2, 1) := by decide +kernel
theorem d_Law_law_262 : decode b_Law_law 262 = .ok (.aload_n 0, 1) := by decide +kernel
theorem d_Law_law_263 : decode b_Law_law 263 = .ok (.iload 4, 2) := by decide +kernel
theorem d_Law_law_265 : decode b_Law_law 265 = .ok (.iconst 1, 1) := by decide +kernel
theorem d_Law_law_266 : decode b_Law_law 266 = .ok (.iadd, 1) := by decide +kernel
theorem d_Law_law_267 : decode b_Law_law 267 = .ok (.iaload, 1) := by decide +kernel
theorem d_Law_law_268 : decode b_Law_law 268 = .ok (.ifCond .eq 7, 3) := by decide +kernel
theorem d_Law_law_271 : decode b_Law_law 271 = .ok (.iconst 1, 1) := by decide +kernel
theorem d_Law_law_272 : decode b_Law_law 272 = .ok (.goto 4, 3) := by decide +kernel
theorem d_Law_law_275 : decode b_Law_law 275 = .ok (.iconst 0, 1) := by decide +kernel
theorem d_Law_law_276 : decode b_Law_law 276 = .ok (.aload_n 0, 1) := by decide +kernel
theorem d_Law_law_277 : decode b_Law_law 277 = .ok (.iload 4, 2) := by decide +kernel
theorem d_Law_law_279 : decode b_Law_law 279 = .ok (.iconst 2, 1) := by decide +kernel
theorem d_Law_law_280 : decode b_Law_law 280 = .ok (.iadd, 1) := by decide +kernel
theorem d_Law_law_281 : decode b_Law_law 281 = .ok (.iaload, 1) := by decide +kernel
theorem d_Law_law_282 : decode b_Law_law 282 = .ok (.aload_n 0, 1) := by decide +kernel
theorem d_Law_law_283 : decode b_Law_law 283 = .ok (.iload 4, 2) := by decide +kernel
theorem d_Law_law_285 : decode b_Law_law 285 = .ok (.iconst 3, 1) := by decide +kernel
theorem d_Law_law_286 : decode b_Law_law 286 = .ok (.iadd, 1) := by decide +kernel
theorem d_Law_law_287 : decode b_Law_law 287 = .ok (.iaload, 1) := by decide +kernel
theorem d_Law_law_288 : decode b_Law_law 288 = .ok (.aload_n 0, 1) := by decide +kernel
theorem d_Law_law_289 : decode b_Law_law 289 = .ok (.iload 4, 2) := by decide +kernel
theorem d_Law_law_291 : decode b_Law_law 291 = .ok (.iconst 4, 1) := by decide +kernel
theorem d_Law_law_292 : decode b_Law_law 292 = .ok (.iadd, 1) := by decide +kernel
theorem d_Law_law_293 : decode b_Law_law 293 = .ok (.iaload, 1) := by decide +kernel
theorem d_Law_law_294 : decode b_Law_law 294 = .ok (.invokevirtual 78, 3) := by decide +kernel
theorem d_Law_law_297 : decode b_Law_law 297 = .ok (.aload_n 2, 1) := by decide +kernel
theorem d_Law_law_298 : decode b_Law_law 298 = .ok (.invokevirtual 69, 3) := by decide +kernel
theorem d_Law_law_301 : decode b_Law_law 301 = .ok (.iload 5, 2) := by decide +kernel
theorem d_Law_law_303 : decode b_Law_law 303 = .ok (.if_icmp .eq 5, 3) := by decide +kernel
theorem d_Law_law_306 : decode b_Law_law 306 = .ok (.iconst 0, 1) := by decide +kernel
theorem d_Law_law_307 : decode b_Law_law 307 = .ok (.ireturn, 1) := by decide +kernel
theorem d_Law_law_308 : decode b_Law_law 308 = .ok (.goto 519, 3) := by decide +kernel
theorem d_Law_law_311 : decode b_Law_law 311 = .ok (.aload_n 1, 1) := by decide +kernel
theorem d_Law_law_312 : decode b_Law_law 312 = .ok (.aload_n 0, 1) := by decide +kernel
theorem d_Law_law_313 : decode b_Law_law 313 = .ok (.iload 4, 2) := by decide +kernel
theorem d_Law_law_315 : decode b_Law_law 315 = .ok (.iconst 1, 1) := by decide +kernel
theorem d_Law_law_316 : decode b_Law_law 316 = .ok (.iadd, 1) := by decide +kernel
theorem d_Law_law_317 : decode b_Law_law 317 = .ok (.iaload, 1) := by decide +kernel
theorem d_Law_law_318 : decode b_Law_law 318 = .ok (.ifCond .eq 7, 3) := by decide +kernel
theorem d_Law_law_321 : decode b_Law_law 321 = .ok (.iconst 1, 1) := by decide +kernel
theorem d_Law_law_322 : decode b_Law_law 322 = .ok (.goto 4, 3) := by decide +kernel
theorem d_Law_law_325 : decode b_Law_law 325 = .ok (.iconst 0, 1) := by decide +kernel
theorem d_Law_law_326 : decode b_Law_law 326 = .ok (.aload_n 0, 1) := by decide +kernel
theorem d_Law_law_327 : decode b_Law_law 327 = .ok (.iload 4, 2) := by decide +kernel
theorem d_Law_law_329 : decode b_Law_law 329 = .ok (.iconst 2, 1) := by decide +kernel
theorem d_Law_law_330 : decode b_Law_law 330 = .ok (.iadd, 1) := by decide +kernel
theorem d_Law_law_331 : decode b_Law_law 331 = .ok (.iaload, 1) := by decide +kernel
theorem d_Law_law_332 : decode b_Law_law 332 = .ok (.aload_n 3, 1) := by decide +kernel
theorem d_Law_law_333 : decode b_Law_law 333 = .ok (.invokestatic 79, 3) := by decide +kernel
theorem d_Law_law_336 : decode b_Law_law 336 = .ok (.istore 5, 2) := by decide +kernel
theorem d_Law_law_338 : decode b_Law_law 338 = .ok (.aload_n 2, 1) := by decide +kernel
theorem d_Law_law_339 : decode b_Law_law 339 = .ok (.aload_n 0, 1) := by decide +kernel
theorem d_Law_law_340 : decode b_Law_law 340 = .ok (.iload 4, 2) := by decide +kernel
theorem d_Law_law_342 : decode b_Law_law 342 = .ok (.iconst 1, 1) := by decide +kernel
theorem d_Law_law_343 : decode b_Law_law 343 = .ok (.iadd, 1) := by decide +kernel
theorem d_Law_law_344 : decode b_Law_law 344 = .ok (.iaload, 1) := by decide +kernel
theorem d_Law_law_345 : decode b_Law_law 345 = .ok (.ifCond .eq 7, 3) := by decide +kernel
theorem d_Law_law_348 : decode b_Law_law 348 = .ok (.iconst 1, 1) := by decide +kernel
theorem d_Law_law_349 : decode b_Law_law 349 = .ok (.goto 4, 3) := by decide +kernel
theorem d_Law_law_352 : decode b_Law_law 352 = .ok (.iconst 0, 1) := by decide +kernel
theorem d_Law_law_353 : decode b_Law_law 353 = .ok (.aload_n 0, 1) := by decide +kernel
theorem d_Law_law_354 : decode b_Law_law 354 = .ok (.iload 4, 2) := by decide +kernel
theorem d_Law_law_356 : decode b_Law_law 356 = .ok (.iconst 2, 1) := by decide +kernel
theorem d_Law_law_357 : decode b_Law_law 357 = .ok (.iadd, 1) := by decide +kernel
theorem d_Law_law_358 : decode b_Law_law 358 = .ok (.iaload, 1) := by decide +kernel
theorem d_Law_law_359 : decode b_Law_law 359 = .ok (.invokevirtual 82, 3) := by decide +kernel
theorem d_Law_law_362 : decode b_Law_law 362 = .ok (.istore 6, 2) := by decide +kernel
theorem d_Law_law_364 : decode b_Law_law 364 = .ok (.aload_n 2, 1) := by decide +kernel
theorem d_Law_law_365 : decode b_Law_law 365 = .ok (.invokevirtual 69, 3) := by decide +kernel
theorem d_Law_law_368 : decode b_Law_law 368 = .ok (.iload 5, 2) := by decide +kernel
theorem d_Law_law_370 : decode b_Law_law 370 = .ok (.if_icmp .eq 5, 3) := by decide +kernel
theorem d_Law_law_373 : decode b_Law_law 373 = .ok (.iconst 0, 1) := by decide +kernel
theorem d_Law_law_374 : decode b_Law_law 374 = .ok (.ireturn, 1) := by decide +kernel
theorem d_Law_law_375 : decode b_Law_law 375 = .ok (.iload 5, 2) := by decide +kernel
theorem d_Law_law_377 : decode b_Law_law 377 = .ok (.ifCond .ne 15, 3) := by decide +kernel
theorem d_Law_law_380 : decode b_Law_law 380 = .ok (.aload_n 3, 1) := by decide +kernel
theorem d_Law_law_381 : decode b_Law_law 381 = .ok (.iconst 0, 1) := by decide +kernel
theorem d_Law_law_382 : decode b_Law_law 382 = .ok (.laload, 1) := by decide +kernel
theorem d_Law_law_383 : decode b_Law_law 383 = .ok (.iload 6, 2) := by decide +kernel
theorem d_Law_law_385 : decode b_Law_law 385 = .ok (.i2l, 1) := by decide +kernel
theorem d_Law_law_386 : decode b_Law_law 386 = .ok (.lcmp, 1) := by decide +kernel
theorem d_Law_law_387 : decode b_Law_law 387 = .ok (.ifCond .eq 5, 3) := by decide +kernel
theorem d_Law_law_390 : decode b_Law_law 390 = .ok (.iconst 0, 1) := by decide +kernel
theorem d_Law_law_391 : decode b_Law_law 391 = .ok (.ireturn, 1) := by decide +kernel
theorem d_Law_law_392 : decode b_Law_law 392 = .ok (.goto 435, 3) := by decide +kernel
theorem d_Law_law_395 : decode b_Law_law 395 = .ok (.aload_n 1, 1) := by decide +kernel
theorem d_Law_law_396 : decode b_Law_law 396 = .ok (.aload_n 0, 1) := by decide +kernel
theorem d_Law_law_397 : decode b_Law_law 397 = .ok (.iload 4, 2) := by decide +kernel
theorem d_Law_law_399 : decode b_Law_law 399 = .ok (.iconst 1, 1) := by decide +kernel
theorem d_Law_law_400 : decode b_Law_law 400 = .ok (.iadd, 1) := by decide +kernel
theorem d_Law_law_401 : decode b_Law_law 401 = .ok (.iaload, 1) := by decide +kernel
theorem d_Law_law_402 : decode b_Law_law 402 = .ok (.ifCond .eq 7, 3) := by decide +kernel
theorem d_Law_law_405 : decode b_Law_law 405 = .ok (.iconst 1, 1) := by decide +kernel
theorem d_Law_law_406 : decode b_Law_law 406 = .ok (.goto 4, 3) := by decide +kernel
theorem d_Law_law_409 : decode b_Law_law 409 = .ok (.iconst 0, 1) := by decide +kernel
theorem d_Law_law_410 : decode b_Law_law 410 = .ok (.invokestatic 83, 3) := by decide +kernel
theorem d_Law_law_413 : decode b_Law_law 413 = .ok (.istore 5, 2) := by decide +kernel
theorem d_Law_law_415 : decode b_Law_law 415 = .ok (.aload_n 2, 1) := by decide +kernel
theorem d_Law_law_416 : decode b_Law_law 416 = .ok (.aload_n 0, 1) := by decide +kernel
theorem d_Law_law_417 : decode b_Law_law 417 = .ok (.iload 4, 2) := by decide +kernel
theorem d_Law_law_419 : decode b_Law_law 419 = .ok (.iconst 1, 1) := by decide +kernel
theorem d_Law_law_420 : decode b_Law_law 420 = .ok (.iadd, 1) := by decide +kernel
theorem d_Law_law_421 : decode b_Law_law 421 = .ok (.iaload, 1) := by decide +kernel
theorem d_Law_law_422 : decode b_Law_law 422 = .ok (.ifCond .eq 7, 3) := by decide +kernel
theorem d_Law_law_425 : decode b_Law_law 425 = .ok (.iconst 1, 1) := by decide +kernel
theorem d_Law_law_426 : decode b_Law_law 426 = .ok (.goto 4, 3) := by decide +kernel
theorem d_Law_law_429 : decode b_Law_law 429 = .ok (.iconst 0, 1) := by decide +kernel
theorem d_Law_law_430 : decode b_Law_law 430 = .ok (.invokevirtual 86, 3) := by decide +kernel
theorem d_Law_law_433 : decode b_Law_law 433 = .ok (.aload_n 2, 1) := by decide +kernel
theorem d_Law_law_434 : decode b_Law_law 434 = .ok (.invokevirtual 69, 3) := by decide +kernel
theorem d_Law_law_437 : decode b_Law_law 437 = .ok (.iload 5, 2) := by decide +kernel
theorem d_Law_law_439 : decode b_Law_law 439 = .ok (.if_icmp .eq 5, 3) := by decide +kernel
theorem d_Law_law_442 : decode b_Law_law 442 = .ok (.iconst 0, 1) := by decide +kernel
theorem d_Law_law_443 : decode b_Law_law 443 = .ok (.ireturn, 1) := by decide +kernel
theorem d_Law_law_444 : decode b_Law_law 444 = .ok (.goto 383, 3) := by decide +kernel
theorem d_Law_law_447 : decode b_Law_law 447 = .ok (.aload_n 1, 1) := by decide +kernel
theorem d_Law_law_448 : decode b_Law_law 448 = .ok (.aload_n 0, 1) := by decide +kernel
theorem d_Law_law_449 : decode b_Law_law 449 = .ok (.iload 4, 2) := by decide +kernel
theorem d_Law_law_451 : decode b_Law_law 451 = .ok (.iconst 1, 1) := by decide +kernel
theorem d_Law_law_452 : decode b_Law_law 452 = .ok (.iadd, 1) := by decide +kernel
theorem d_Law_law_453 : decode b_Law_law 453 = .ok (.iaload, 1) := by decide +kernel
theorem d_Law_law_454 : decode b_Law_law 454 = .ok (.aload_n 0, 1) := by decide +kernel
theorem d_Law_law_455 : decode b_Law_law 455 = .ok (.iload 4, 2) := by decide +kernel
theorem d_Law_law_457 : decode b_Law_law 457 = .ok (.iconst 2, 1) := by decide +kernel
theorem d_Law_law_458 : decode b_Law_law 458 = .ok (.iadd, 1) := by decide +kernel
theorem d_Law_law_459 : decode b_Law_law 459 = .ok (.iaload, 1) := by decide +kernel
theorem d_Law_law_460 : decode b_Law_law 460 = .ok (.i2l, 1) := by decide +kernel
theorem d_Law_law_461 : decode b_Law_law 461 = .ok (.bipush 32, 2) := by decide +kernel
theorem d_Law_law_463 : decode b_Law_law 463 = .ok (.lshl, 1) := by decide +kernel
theorem d_Law_law_464 : decode b_Law_law 464 = .ok (.aload_n 0, 1) := by decide +kernel
theorem d_Law_law_465 : decode b_Law_law 465 = .ok (.iload 4, 2) := by decide +kernel
theorem d_Law_law_467 : decode b_Law_law 467 = .ok (.iconst 3, 1) := by decide +kernel
theorem d_Law_law_468 : decode b_Law_law 468 = .ok (.iadd, 1) := by decide +kernel
theorem d_Law_law_469 : decode b_Law_law 469 = .ok (.iaload, 1) := by decide +kernel
theorem d_Law_law_470 : decode b_Law_law 470 = .ok (.i2l, 1) := by decide +kernel
theorem d_Law_law_471 : decode b_Law_law 471 = .ok (.ldc2_w 87, 3) := by decide +kernel
theorem d_Law_law_474 : decode b_Law_law 474 = .ok (.land, 1) := by decide +kernel
theorem d_Law_law_475 : decode b_Law_law 475 = .ok (.lor, 1) := by decide +kernel
theorem d_Law_law_476 : decode b_Law_law 476 = .ok (.aload_n 0, 1) := by decide +kernel
theorem d_Law_law_477 : decode b_Law_law 477 = .ok (.iload 4, 2) := by decide +kernel
theorem d_Law_law_479 : decode b_Law_law 479 = .ok (.iconst 4, 1) := by decide +kernel
theorem d_Law_law_480 : decode b_Law_law 480 = .ok (.iadd, 1) := by decide +kernel
theorem d_Law_law_481 : decode b_Law_law 481 = .ok (.iaload, 1) := by decide +kernel
theorem d_Law_law_482 : decode b_Law_law 482 = .ok (.aload_n 3, 1) := by decide +kernel
theorem d_Law_law_483 : decode b_Law_law 483 = .ok (.invokestatic 89, 3) := by decide +kernel
theorem d_Law_law_486 : decode b_Law_law 486 = .ok (.istore 5, 2) := by decide +kernel
theorem d_Law_law_488 : decode b_Law_law 488 = .ok (.aload_n 2, 1) := by decide +kernel
theorem d_Law_law_489 : decode b_Law_law 489 = .ok (.aload_n 0, 1) := by decide +kernel
theorem d_Law_law_490 : decode b_Law_law 490 = .ok (.iload 4, 2) := by decide +kernel
theorem d_Law_law_492 : decode b_Law_law 492 = .ok (.iconst 1, 1) := by decide +kernel
theorem d_Law_law_493 : decode b_Law_law 493 = .ok (.iadd, 1) := by decide +kernel
theorem d_Law_law_494 : decode b_Law_law 494 = .ok (.iaload, 1) := by decide +kernel
theorem d_Law_law_495 : decode b_Law_law 495 = .ok (.aload_n 0, 1) := by decide +kernel
theorem d_Law_law_496 : decode b_Law_law 496 = .ok (.iload 4, 2) := by decide +kernel
theorem d_Law_law_498 : decode b_Law_law 498 = .ok (.iconst 2, 1) := by decide +kernel
theorem d_Law_law_499 : decode b_Law_law 499 = .ok (.iadd, 1) := by decide +kernel
theorem d_Law_law_500 : decode b_Law_law 500 = .ok (.iaload, 1) := by decide +kernel
theorem d_Law_law_501 : decode b_Law_law 501 = .ok (.i2l, 1) := by decide +kernel
theorem d_Law_law_502 : decode b_Law_law 502 = .ok (.bipush 32, 2) := by decide +kernel
theorem d_Law_law_504 : decode b_Law_law 504 = .ok (.lshl, 1) := by decide +kernel
theorem d_Law_law_505 : decode b_Law_law 505 = .ok (.aload_n 0, 1) := by decide +kernel
theorem d_Law_law_506 : decode b_Law_law 506 = .ok (.iload 4, 2) := by decide +kernel
theorem d_Law_law_508 : decode b_Law_law 508 = .ok (.iconst 3, 1) := by decide +kernel
theorem d_Law_law_509 : decode b_Law_law 509 = .ok (.iadd, 1) := by decide +kernel
theorem d_Law_law_510 : decode b_Law_law 510 = .ok (.iaload, 1) := by decide +kernel
theorem d_Law_law_511 : decode b_Law_law 511 = .ok (.i2l, 1) := by decide +kernel
theorem d_Law_law_512 : decode b_Law_law 512 = .ok (.ldc2_w 87, 3) := by decide +kernel
theorem d_Law_law_515 : decode b_Law_law 515 = .ok (.land, 1) := by decide +kernel
theorem d_Law_law_516 : decode b_Law_law 516 = .ok (.lor, 1) := by decide +kernel
theorem d_Law_law_517 : decode b_Law_law 517 = .ok (.aload_n 0, 1) := by decide +kernel
theorem d_Law_law_518 : decode b_Law_law 518 = .ok (.iload 4, 2) := by decide +kernel
theorem d_Law_law_520 : decode b_Law_law 520 = .ok (.iconst 4, 1) := by decide +kernel
theorem d_Law_law_521 : decode b_Law_law 521 = .ok (.iadd, 1) := by decide +kernel
theorem d_Law_law_522 : decode b_Law_law 522 = .ok (.iaload, 1) := by decide +kernel
theorem d_Law_law_523 : decode b_Law_law 523 = .ok (.invokevirtual 92, 3) := by decide +kernel
theorem d_Law_law_526 : decode b_Law_law 526 = .ok (.istore 6, 2) := by decide +kernel
theorem d_Law_law_528 : decode b_Law_law 528 = .ok (.aload_n 2, 1) := by decide +kernel
theorem d_Law_law_529 : decode b_Law_law 529 = .ok (.invokevirtual 69, 3) := by decide +kernel
theorem d_Law_law_532 : decode b_Law_law 532 = .ok (.iload 5, 2) := by decide +kernel
theorem d_Law_law_534 : decode b_Law_law 534 = .ok (.if_icmp .eq 5, 3) := by decide +kernel
theorem d_Law_law_537 : decode b_Law_law 537 = .ok (.iconst 0, 1) := by decide +kernel
theorem d_Law_law_538 : decode b_Law_law 538 = .ok (.ireturn, 1) := by decide +kernel
theorem d_Law_law_539 : decode b_Law_law 539 = .ok (.iload 5, 2) := by decide +kernel
theorem d_Law_law_541 : decode b_Law_law 541 = .ok (.ifCond .ne 15, 3) := by decide +kernel
theorem d_Law_law_544 : decode b_Law_law 544 = .ok (.aload_n 3, 1) := by decide +kernel
theorem d_Law_law_545 : decode b_Law_law 545 = .ok (.iconst 0, 1) := by decide +kernel
theorem d_Law_law_546 : decode b_Law_law 546 = .ok (.laload, 1) := by decide +kernel
theorem d_Law_law_547 : decode b_Law_law 547 = .ok (.iload 6, 2) := by decide +kernel
theorem d_Law_law_549 : decode b_Law_law 549 = .ok (.i2l, 1) := by decide +kernel
theorem d_Law_law_550 : decode b_Law_law 550 = .ok (.lcmp, 1) := by decide +kernel
theorem d_Law_law_551 : decode b_Law_law 551 = .ok (.ifCond .eq 5, 3) := by decide +kernel
theorem d_Law_law_554 : decode b_Law_law 554 = .ok (.iconst 0, 1) := by decide +kernel
theorem d_Law_law_555 : decode b_Law_law 555 = .ok (.ireturn, 1) := by decide +kernel
theorem d_Law_law_556 : decode b_Law_law 556 = .ok (.goto 271, 3) := by decide +kernel
theorem d_Law_law_559 : decode b_Law_law 559 = .ok (.aload_n 1, 1) := by decide +kernel
theorem d_Law_law_560 : decode b_Law_law 560 = .ok (.aload_n 3, 1) := by decide +kernel
theorem d_Law_law_561 : decode b_Law_law 561 = .ok (.invokestatic 93, 3) := by decide +kernel
theorem d_Law_law_564 : decode b_Law_law 564 = .ok (.istore 5, 2) := by decide +kernel
theorem d_Law_law_566 : decode b_Law_law 566 = .ok (.aload_n 2, 1) := by decide +kernel
theorem d_Law_law_567 : decode b_Law_law 567 = .ok (.invokevirtual 96, 3) := by decide +kernel
theorem d_Law_law_570 : decode b_Law_law 570 = .ok (.istore 6, 2) := by decide +kernel
theorem d_Law_law_572 : decode b_Law_law 572 = .ok (.aload_n 2, 1) := by decide +kernel
theorem d_Law_law_573 : decode b_Law_law 573 = .ok (.invokevirtual 69, 3) := by decide +kernel
theorem d_Law_law_576 : decode b_Law_law 576 = .ok (.iload 5, 2) := by decide +kernel
theorem d_Law_law_578 : decode b_Law_law 578 = .ok (.if_icmp .eq 5, 3) := by decide +kernel
theorem d_Law_law_581 : decode b_Law_law 581 = .ok (.iconst 0, 1) := by decide +kernel
theorem d_Law_law_582 : decode b_Law_law 582 = .ok (.ireturn, 1) := by decide +kernel
theorem d_Law_law_583 : decode b_Law_law 583 = .ok (.iload 5, 2) := by decide +kernel
theorem d_Law_law_585 : decode b_Law_law 585 = .ok (.ifCond .ne 15, 3) := by decide +kernel
theorem d_Law_law_588 : decode b_Law_law 588 = .ok (.aload_n 3, 1) := by decide +kernel
theorem d_Law_law_589 : decode b_Law_law 589 = .ok (.iconst 0, 1) := by decide +kernel
theorem d_Law_law_590 : decode b_Law_law 590 = .ok (.laload, 1) := by decide +kernel
theorem d_Law_law_591 : decode b_Law_law 591 = .ok (.iload 6, 2) := by decide +kernel
theorem d_Law_law_593 : decode b_Law_law 593 = .ok (.i2l, 1) := by decide +kernel
theorem d_Law_law_594 : decode b_Law_law 594 = .ok (.lcmp, 1) := by decide +kernel
theorem d_Law_law_595 : decode b_Law_law 595 = .ok (.ifCond .eq 5, 3) := by decide +kernel
theorem d_Law_law_598 : decode b_Law_law 598 = .ok (.iconst 0, 1) := by decide +kernel
theorem d_Law_law_599 : decode b_Law_law 599 = .ok (.ireturn, 1) := by decide +kernel
theorem d_Law_law_600 : decode b_Law_law 600 = .ok (.goto 227, 3) := by decide +kernel
theorem d_Law_law_603 : decode b_Law_law 603 = .ok (.aload_n 1, 1) := by decide +kernel
theorem d_Law_law_604 : decode b_Law_law 604 = .ok (.aload_n 0, 1) := by decide +kernel
theorem d_Law_law_605 : decode b_Law_law 605 = .ok (.iload 4, 2) := by decide +kernel
theorem d_Law_law_607 : decode b_Law_law 607 = .ok (.iconst 1, 1) := by decide +kernel
theorem d_Law_law_608 : decode b_Law_law 608 = .ok (.iadd, 1) := by decide +kernel
theorem d_Law_law_609 : decode b_Law_law 609 = .ok (.iaload, 1) := by decide +kernel
theorem d_Law_law_610 : decode b_Law_law 610 = .ok (.aload_n 3, 1) := by decide +kernel
theorem d_Law_law_611 : decode b_Law_law 611 = .ok (.invokestatic 97, 3) := by decide +kernel
theorem d_Law_law_614 : decode b_Law_law 614 = .ok (.istore 5, 2) := by decide +kernel
theorem d_Law_law_616 : decode b_Law_law 616 = .ok (.aload_n 2, 1) := by decide +kernel
theorem d_Law_law_617 : decode b_Law_law 617 = .ok (.aload_n 0, 1) := by decide +kernel
theorem d_Law_law_618 : decode b_Law_law 618 = .ok (.iload 4, 2) := by decide +kernel
theorem d_Law_law_620 : decode b_Law_law 620 = .ok (.iconst 1, 1) := by decide +kernel
theorem d_Law_law_621 : decode b_Law_law 621 = .ok (.iadd, 1) := by decide +kernel
theorem d_Law_law_622 : decode b_Law_law 622 = .ok (.iaload, 1) := by decide +kernel
theorem d_Law_law_623 : decode b_Law_law 623 = .ok (.invokevirtual 99, 3) := by decide +kernel
theorem d_Law_law_626 : decode b_Law_law 626 = .ok (.istore 6, 2) := by decide +kernel
theorem d_Law_law_628 : decode b_Law_law 628 = .ok (.aload_n 2, 1) := by decide +kernel
theorem d_Law_law_629 : decode b_Law_law 629 = .ok (.invokevirtual 69, 3) := by decide +kernel
theorem d_Law_law_632 : decode b_Law_law 632 = .ok (.iload 5, 2) := by decide +kernel
theorem d_Law_law_634 : decode b_Law_law 634 = .ok (.if_icmp .eq 5, 3) := by decide +kernel
theorem d_Law_law_637 : decode b_Law_law 637 = .ok (.iconst 0, 1) := by decide +kernel
theorem d_Law_law_638 : decode b_Law_law 638 = .ok (.ireturn, 1) := by decide +kernel
theorem d_Law_law_639 : decode b_Law_law 639 = .ok (.iload 5, 2) := by decide +kernel
theorem d_Law_law_641 : decode b_Law_law 641 = .ok (.ifCond .ne 15, 3) := by decide +kernel
theorem d_Law_law_644 : decode b_Law_law 644 = .ok (.aload_n 3, 1) := by decide +kernel
theorem d_Law_law_645 : decode b_Law_law 645 = .ok (.iconst 0, 1) := by decide +kernel
theorem d_Law_law_646 : decode b_Law_law 646 = .ok (.laload, 1) := by decide +kernel
theorem d_Law_law_647 : decode b_Law_law 647 = .ok (.iload 6, 2) := by decide +kernel
theorem d_Law_law_649 : decode b_Law_law 649 = .ok (.i2l, 1) := by decide +kernel
theorem d_Law_law_650 : decode b_Law_law 650 = .ok (.lcmp, 1) := by decide +kernel
theorem d_Law_law_651 : decode b_Law_law 651 = .ok (.ifCond .eq 5, 3) := by decide +kernel
theorem d_Law_law_654 : decode b_Law_law 654 = .ok (.iconst 0, 1) := by decide +kernel
theorem d_Law_law_655 : decode b_Law_law 655 = .ok (.ireturn, 1) := by decide +kernel
theorem d_Law_law_656 : decode b_Law_law 656 = .ok (.goto 171, 3) := by decide +kernel
theorem d_Law_law_659 : decode b_Law_law 659 = .ok (.aload_n 1, 1) := by decide +kernel
theorem d_Law_law_660 : decode b_Law_law 660 = .ok (.aload_n 0, 1) := by decide +kernel
theorem d_Law_law_661 : decode b_Law_law 661 = .ok (.iload 4, 2) := by decide +kernel
theorem d_Law_law_663 : decode b_Law_law 663 = .ok (.iconst 1, 1) := by decide +kernel
theorem d_Law_law_664 : decode b_Law_law 664 = .ok (.iadd, 1) := by decide +kernel
theorem d_Law_law_665 : decode b_Law_law 665 = .ok (.iaload, 1) := by decide +kernel
theorem d_Law_law_666 : decode b_Law_law 666 = .ok (.ifCond .eq 7, 3) := by decide +kernel
theorem d_Law_law_669 : decode b_Law_law 669 = .ok (.iconst 1, 1) := by decide +kernel
theorem d_Law_law_670 : decode b_Law_law 670 = .ok (.goto 4, 3) := by decide +kernel
theorem d_Law_law_673 : decode b_Law_law 673 = .ok (.iconst 0, 1) := by decide +kernel
theorem d_Law_law_674 : decode b_Law_law 674 = .ok (.aload_n 0, 1) := by decide +kernel
theorem d_Law_law_675 : decode b_Law_law 675 = .ok (.iload 4, 2) := by decide +kernel
theorem d_Law_law_677 : decode b_Law_law 677 = .ok (.iconst 2, 1) := by decide +kernel
theorem d_Law_law_678 : decode b_Law_law 678 = .ok (.iadd, 1) := by decide +kernel
theorem d_Law_law_679 : decode b_Law_law 679 = .ok (.iaload, 1) := by decide +kernel
theorem d_Law_law_680 : decode b_Law_law 680 = .ok (.aload_n 0, 1) := by decide +kernel
theorem d_Law_law_681 : decode b_Law_law 681 = .ok (.iload 4, 2) := by decide +kernel
theorem d_Law_law_683 : decode b_Law_law 683 = .ok (.iconst 3, 1) := by decide +kernel
theorem d_Law_law_684 : decode b_Law_law 684 = .ok (.iadd, 1) := by decide +kernel
theorem d_Law_law_685 : decode b_Law_law 685 = .ok (.iaload, 1) := by decide +kernel
theorem d_Law_law_686 : decode b_Law_law 686 = .ok (.invokestatic 100, 3) := by decide +kernel
theorem d_Law_law_689 : decode b_Law_law 689 = .ok (.istore 5, 2) := by decide +kernel
theorem d_Law_law_691 : decode b_Law_law 691 = .ok (.aload_n 2, 1) := by decide +kernel
theorem d_Law_law_692 : decode b_Law_law 692 = .ok (.aload_n 0, 1) := by decide +kernel
theorem d_Law_law_693 : decode b_Law_law 693 = .ok (.iload 4, 2) := by decide +kernel
theorem d_Law_law_695 : decode b_Law_law 695 = .ok (.iconst 1, 1) := by decide +kernel
theorem d_Law_law_696 : decode b_Law_law 696 = .ok (.iadd, 1) := by decide +kernel
theorem d_Law_law_697 : decode b_Law_law 697 = .ok (.iaload, 1) := by decide +kernel
theorem d_Law_law_698 : decode b_Law_law 698 = .ok (.ifCond .eq 7, 3) := by decide +kernel
theorem d_Law_law_701 : decode b_Law_law 701 = .ok (.iconst 1, 1) := by decide +kernel
theorem d_Law_law_702 : decode b_Law_law 702 = .ok (.goto 4, 3) := by decide +kernel
theorem d_Law_law_705 : decode b_Law_law 705 = .ok (.iconst 0, 1) := by decide +kernel
theorem d_Law_law_706 : decode b_Law_law 706 = .ok (.aload_n 0, 1) := by decide +kernel
theorem d_Law_law_707 : decode b_Law_law 707 = .ok (.iload 4, 2) := by decide +kernel
theorem d_Law_law_709 : decode b_Law_law 709 = .ok (.iconst 2, 1) := by decide +kernel
theorem d_Law_law_710 : decode b_Law_law 710 = .ok (.iadd, 1) := by decide +kernel
theorem d_Law_law_711 : decode b_Law_law 711 = .ok (.iaload, 1) := by decide +kernel
theorem d_Law_law_712 : decode b_Law_law 712 = .ok (.aload_n 0, 1) := by decide +kernel
theorem d_Law_law_713 : decode b_Law_law 713 = .ok (.iload 4, 2) := by decide +kernel
theorem d_Law_law_715 : decode b_Law_law 715 = .ok (.iconst 3, 1) := by decide +kernel
theorem d_Law_law_716 : decode b_Law_law 716 = .ok (.iadd, 1) := by decide +kernel
theorem d_Law_law_717 : decode b_Law_law 717 = .ok (.iaload, 1) := by decide +kernel
theorem d_Law_law_718 : decode b_Law_law 718 = .ok (.invokevirtual 103, 3) := by decide +kernel
theorem d_Law_law_721 : decode b_Law_law 721 = .ok (.aload_n 2, 1) := by decide +kernel
theorem d_Law_law_722 : decode b_Law_law 722 = .ok (.invokevirtual 69, 3) := by decide +kernel
theorem d_Law_law_725 : decode b_Law_law 725 = .ok (.iload 5, 2) := by decide +kernel
theorem d_Law_law_727 : decode b_Law_law 727 = .ok (.if_icmp .eq 5, 3) := by decide +kernel
theorem d_Law_law_730 : decode b_Law_law 730 = .ok (.iconst 0, 1) := by decide +kernel
theorem d_Law_law_731 : decode b_Law_law 731 = .ok (.ireturn, 1) := by decide +kernel
theorem d_Law_law_732 : decode b_Law_law 732 = .ok (.goto 95, 3) := by decide +kernel
theorem d_Law_law_735 : decode b_Law_law 735 = .ok (.aload_n 1, 1) := by decide +kernel
theorem d_Law_law_736 : decode b_Law_law 736 = .ok (.aload_n 0, 1) := by decide +kernel
theorem d_Law_law_737 : decode b_Law_law 737 = .ok (.iload 4, 2) := by decide +kernel
theorem d_Law_law_739 : decode b_Law_law 739 = .ok (.iconst 1, 1) := by decide +kernel
theorem d_Law_law_740 : decode b_Law_law 740 = .ok (.iadd, 1) := by decide +kernel
theorem d_Law_law_741 : decode b_Law_law 741 = .ok (.iaload, 1) := by decide +kernel
theorem d_Law_law_742 : decode b_Law_law 742 = .ok (.aload_n 0, 1) := by decide +kernel
theorem d_Law_law_743 : decode b_Law_law 743 = .ok (.iload 4, 2) := by decide +kernel
theorem d_Law_law_745 : decode b_Law_law 745 = .ok (.iconst 2, 1) := by decide +kernel
theorem d_Law_law_746 : decode b_Law_law 746 = .ok (.iadd, 1) := by decide +kernel
theorem d_Law_law_747 : decode b_Law_law 747 = .ok (.iaload, 1) := by decide +kernel
theorem d_Law_law_748 : decode b_Law_law 748 = .ok (.aload_n 3, 1) := by decide +kernel
theorem d_Law_law_749 : decode b_Law_law 749 = .ok (.invokestatic 104, 3) := by decide +kernel
theorem d_Law_law_752 : decode b_Law_law 752 = .ok (.istore 5, 2) := by decide +kernel
theorem d_Law_law_754 : decode b_Law_law 754 = .ok (.aload_n 2, 1) := by decide +kernel
theorem d_Law_law_755 : decode b_Law_law 755 = .ok (.aload_n 0, 1) := by decide +kernel
theorem d_Law_law_756 : decode b_Law_law 756 = .ok (.iload 4, 2) := by decide +kernel
theorem d_Law_law_758 : decode b_Law_law 758 = .ok (.iconst 1, 1) := by decide +kernel
theorem d_Law_law_759 : decode b_Law_law 759 = .ok (.iadd, 1) := by decide +kernel
theorem d_Law_law_760 : decode b_Law_law 760 = .ok (.iaload, 1) := by decide +kernel
theorem d_Law_law_761 : decode b_Law_law 761 = .ok (.aload_n 0, 1) := by decide +kernel
theorem d_Law_law_762 : decode b_Law_law 762 = .ok (.iload 4, 2) := by decide +kernel
theorem d_Law_law_764 : decode b_Law_law 764 = .ok (.iconst 2, 1) := by decide +kernel
theorem d_Law_law_765 : decode b_Law_law 765 = .ok (.iadd, 1) := by decide +kernel
theorem d_Law_law_766 : decode b_Law_law 766 = .ok (.iaload, 1) := by decide +kernel
theorem d_Law_law_767 : decode b_Law_law 767 = .ok (.invokevirtual 107, 3) := by decide +kernel
theorem d_Law_law_770 : decode b_Law_law 770 = .ok (.lstore 6, 2) := by decide +kernel
theorem d_Law_law_772 : decode b_Law_law 772 = .ok (.aload_n 2, 1) := by decide +kernel
theorem d_Law_law_773 : decode b_Law_law 773 = .ok (.invokevirtual 69, 3) := by decide +kernel
theorem d_Law_law_776 : decode b_Law_law 776 = .ok (.iload 5, 2) := by decide +kernel
theorem d_Law_law_778 : decode b_Law_law 778 = .ok (.if_icmp .eq 5, 3) := by decide +kernel
theorem d_Law_law_781 : decode b_Law_law 781 = .ok (.iconst 0, 1) := by decide +kernel
theorem d_Law_law_782 : decode b_Law_law 782 = .ok (.ireturn, 1) := by decide +kernel
theorem d_Law_law_783 : decode b_Law_law 783 = .ok (.iload 5, 2) := by decide +kernel
theorem d_Law_law_785 : decode b_Law_law 785 = .ok (.ifCond .ne 14, 3) := by decide +kernel
theorem d_Law_law_788 : decode b_Law_law 788 = .ok (.aload_n 3, 1) := by decide +kernel
theorem d_Law_law_789 : decode b_Law_law 789 = .ok (.iconst 0, 1) := by decide +kernel
theorem d_Law_law_790 : decode b_Law_law 790 = .ok (.laload, 1) := by decide +kernel
theorem d_Law_law_791 : decode b_Law_law 791 = .ok (.lload 6, 2) := by decide +kernel
theorem d_Law_law_793 : decode b_Law_law 793 = .ok (.lcmp, 1) := by decide +kernel
theorem d_Law_law_794 : decode b_Law_law 794 = .ok (.ifCond .eq 5, 3) := by decide +kernel
theorem d_Law_law_797 : decode b_Law_law 797 = .ok (.iconst 0, 1) := by decide +kernel
theorem d_Law_law_798 : decode b_Law_law 798 = .ok (.ireturn, 1) := by decide +kernel
theorem d_Law_law_799 : decode b_Law_law 799 = .ok (.goto 28, 3) := by decide +kernel
theorem d_Law_law_802 : decode b_Law_law 802 = .ok (.aload_n 1, 1) := by decide +kernel
theorem d_Law_law_803 : decode b_Law_law 803 = .ok (.aload_n 0, 1) := by decide +kernel
theorem d_Law_law_804 : decode b_Law_law 804 = .ok (.iload 4, 2) := by decide +kernel
theorem d_Law_law_806 : decode b_Law_law 806 = .ok (.iconst 1, 1) := by decide +kernel
theorem d_Law_law_807 : decode b_Law_law 807 = .ok (.iadd, 1) := by decide +kernel
theorem d_Law_law_808 : decode b_Law_law 808 = .ok (.iaload, 1) := by decide +kernel
theorem d_Law_law_809 : decode b_Law_law 809 = .ok (.invokevirtual 108, 3) := by decide +kernel
theorem d_Law_law_812 : decode b_Law_law 812 = .ok (.aload_n 2, 1) := by decide +kernel
theorem d_Law_law_813 : decode b_Law_law 813 = .ok (.aload_n 0, 1) := by decide +kernel
theorem d_Law_law_814 : decode b_Law_law 814 = .ok (.iload 4, 2) := by decide +kernel
theorem d_Law_law_816 : decode b_Law_law 816 = .ok (.iconst 1, 1) := by decide +kernel
theorem d_Law_law_817 : decode b_Law_law 817 = .ok (.iadd, 1) := by decide +kernel
theorem d_Law_law_818 : decode b_Law_law 818 = .ok (.iaload, 1) := by decide +kernel
theorem d_Law_law_819 : decode b_Law_law 819 = .ok (.invokevirtual 111, 3) := by decide +kernel
theorem d_Law_law_822 : decode b_Law_law 822 = .ok (.if_icmp .eq 5, 3) := by decide +kernel
theorem d_Law_law_825 : decode b_Law_law 825 = .ok (.iconst 0, 1) := by decide +kernel
theorem d_Law_law_826 : decode b_Law_law 826 = .ok (.ireturn, 1) := by decide +kernel
theorem d_Law_law_827 : decode b_Law_law 827 = .ok (.iinc 4 5, 3) := by decide +kernel
theorem d_Law_law_830 : decode b_Law_law 830 = .ok (.goto (-807), 3) := by decide +kernel
theorem d_Law_law_833 : decode b_Law_law 833 = .ok (.iconst 1, 1) := by decide +kernel
theorem d_Law_law_834 : decode b_Law_law 834 = .ok (.ireturn, 1) := by decide +kernel
theorem d_Arr_copyOf_0 : decode b_Arr_copyOf 0 = .ok (.iload_n 1, 1) := by decide +kernel
theorem d_Arr_copyOf_1 : decode b_Arr_copyOf 1 = .ok (.aload_n 0, 1) := by decide +kernel
theorem d_Arr_copyOf_2 : decode b_Arr_copyOf 2 = .ok (.arraylength, 1) := by decide +kernel
theorem d_Arr_copyOf_3 : decode b_Arr_copyOf 3 = .ok (.if_icmp .ne 11, 3) := by decide +kernel
theorem d_Arr_copyOf_6 : decode b_Arr_copyOf 6 = .ok (.aload_n 0, 1) := by decide +kernel
theorem d_Arr_copyOf_7 : decode b_Arr_copyOf 7 = .ok (.invokevirtual 316, 3) := by decide +kernel
theorem d_Arr_copyOf_10 : decode b_Arr_copyOf 10 = .ok (.checkcast 317, 3) := by decide +kernel
theorem d_Arr_copyOf_13 : decode b_Arr_copyOf 13 = .ok (.areturn, 1) := by decide +kernel
theorem d_Arr_copyOf_14 : decode b_Arr_copyOf 14 = .ok (.iload_n 1, 1) := by decide +kernel
theorem d_Arr_copyOf_15 : decode b_Arr_copyOf 15 = .ok (.newarray .int, 2) := by decide +kernel
theorem d_Arr_copyOf_17 : decode b_Arr_copyOf 17 = .ok (.astore_n 2, 1) := by decide +kernel
theorem d_Arr_copyOf_18 : decode b_Arr_copyOf 18 = .ok (.aload_n 0, 1) := by decide +kernel
theorem d_Arr_copyOf_19 : decode b_Arr_copyOf 19 = .ok (.iconst 0, 1) := by decide +kernel
theorem d_Arr_copyOf_20 : decode b_Arr_copyOf 20 = .ok (.aload_n 2, 1) := by decide +kernel
theorem d_Arr_copyOf_21 : decode b_Arr_copyOf 21 = .ok (.iconst 0, 1) := by decide +kernel
theorem d_Arr_copyOf_22 : decode b_Arr_copyOf 22 = .ok (.aload_n 0, 1) := by decide +kernel
theorem d_Arr_copyOf_23 : decode b_Arr_copyOf 23 = .ok (.arraylength, 1) := by decide +kernel
theorem d_Arr_copyOf_24 : decode b_Arr_copyOf 24 = .ok (.iload_n 1, 1) := by decide +kernel
theorem d_Arr_copyOf_25 : decode b_Arr_copyOf 25 = .ok (.invokestatic 304, 3) := by decide +kernel
theorem d_Arr_copyOf_28 : decode b_Arr_copyOf 28 = .ok (.invokestatic 150, 3) := by decide +kernel
theorem d_Arr_copyOf_31 : decode b_Arr_copyOf 31 = .ok (.aload_n 2, 1) := by decide +kernel
theorem d_Arr_copyOf_32 : decode b_Arr_copyOf 32 = .ok (.areturn, 1) := by decide +kernel
end
section
/-! what every walk of this claim may lean on beside its words: the static tables, Throwable's statics, the texts, the nest's links -/
abbrev gK : Type := ClassId × ClassId × Nat × Nat × Nat × (Nat → Nat)
abbrev gTY (k : gK) : List (ClassId × FieldType) := [(k.1, .int), (k.2.1, .long)]
def nwK : Cond → Bool
  | .fieldLinkNest .. => true
  | .methodLinkNest .. => true
  | .castable .. => true
  | .declares .. => true
  | _ => false
def NW : List Cond := lw_tbl.filter nwK
theorem inNW {w : Cond} (h : w ∈ lw_tbl) (g : nwK w = true) : w ∈ NW := List.mem_filter.mpr ⟨h, g⟩
theorem nwK_tab {w : Cond} (h : nwK w = true) : w.onTables = true := by
  cases w <;> first | rfl | (simp [nwK] at h)
theorem nwK_warm {w : Cond} (h : nwK w = true) {s U : State} (hW : s.WarmedH U.vm) (hZ : va_Nw w s) : va_Nw w U := by
  cases w <;> first | exact va_Nw.warmF hW hZ | exact va_Nw.warmM hW hZ | exact va_Nw.warmC hW hZ | exact va_Nw.warmD hW hZ | (simp [nwK] at h)
def tabP : List Int32 := [22017, 13313, 6145, 2753, 1313, 545, 22017, 21505, 18433, 14337, 12289, 9217, 7169, 5633, 22017, 21505, 20737, 18433, 14337, 13313, 12289, 10241, 9217, 8705, 7169, 6145, 5633, 5121, 4609, 4353, 2753, 2497, 2209, 1313, 1089, 673, 545, 321, 273, 133, 73, 37, 21, 9, 5, 1, 22017]
def tabN : List Int32 := [1, 2, 3, 4, 5, 38, 7, 8, 9, 10, 11, 12, 13, 29, 15, 16, 17, 18, 19, 20, 21, 22, 23, 24, 25, 26, 27, 28, 29, 30, 31, 32, 33, 34, 35, 36, 37, 38, 39, 40, 41, 42, 43, 44, 45, 45, 46]
def tabO : List Int32 := [1, 6, 9, 12, 29, 33, 6, 14, 14, 14, 17, 18, 20, 21, 14, 14, 15, 16, 17, 18, 19, 19, 20, 21, 22, 23, 24, 25, 26, 27, 28, 29, 30, 31, 32, 33, 34, 35, 36, 37, 38, 39, 40, 41, 42, 43, 46]
def gStr : List (Nat × String) := [(90, "a byte is 0 .. 255"), (97, "a segment is open"), (107, "there are 65,536 bytes"), (116, "there is no such byte"), (127, "a context is 0 .. 18"), (129, "a state is 0 .. 46"), (131, "a bit is 0 or 1"), (155, "no segment is open"), (161, "a context is 0 .. 18, or -1 for raw bits"), (163, "the bits are 1 .. 64"), (166, "there are more than 65,000 bytes"), (177, "a way is 0 or 1"), (191, "there are no such bytes"), (200, "nothing is read")]
def xA : String := "java/lang/IllegalArgumentException"
def xS : String := "java/lang/IllegalStateException"
def xU : String := "java/lang/UnsupportedOperationException"
def xI : String := "java/lang/IndexOutOfBoundsException"
def gNc : List (String × String) := [(xS, xA), (xU, xA), (xA, xS), (xU, xS)]
def gTab (nm : String) (t : Nat) (l : List Int32) (A : Nat → Prop) (U : State) (H : Heap) : Prop := va_Z "LikelyBits" nm "[I" (.ref t) A U H ∧ va_T .int t 47 (fun j => .int (l.getD j 0)) A U H
def EV (k : gK) (A : Nat → Prop) (U : State) (H : Heap) : Prop :=
  (∀ w ∈ NW, va_Nw w U) ∧ gTab "PARTS" k.2.2.1 tabP A U H ∧ gTab "NEXT_STATES" k.2.2.2.1 tabN A U H ∧ gTab "OTHER_STATES" k.2.2.2.2.1 tabO A U H ∧
  vx_Zq Bundle.tN "UNASSIGNED_STACK" Bundle.steD A U H ∧ vx_Zq Bundle.tN "SUPPRESSED_SENTINEL" Bundle.listD A U H ∧ (∀ q ∈ gStr, vk_R "LikelyBits" q.1 q.2 (k.2.2.2.2.2 q.1) U) ∧ ∀ q ∈ gNc, va_Nc q.1 q.2 U
section EVA
variable {k : gK} {A B : Nat → Prop} {s U : State} {H : Heap} {locs : List Loc}
theorem EV.nest (h : EV k A U H) (w : Cond) (hw : w ∈ NW) {args : Array Value} : w.before args U = true := va_Nw.use (nwK_tab (List.mem_filter.mp hw).2) (h.1 w hw)
theorem EV.nestN (h : EV k A U H) (w : Cond) (hw : w ∈ NW) : va_Nw w U := h.1 w hw
theorem EV.zP (h : EV k A U H) : va_Z "LikelyBits" "PARTS" "[I" (.ref k.2.2.1) A U H := h.2.1.1
theorem EV.tP (h : EV k A U H) : va_T .int k.2.2.1 47 (fun j => .int (tabP.getD j 0)) A U H := h.2.1.2
theorem EV.zN (h : EV k A U H) : va_Z "LikelyBits" "NEXT_STATES" "[I" (.ref k.2.2.2.1) A U H := h.2.2.1.1
theorem EV.tN (h : EV k A U H) : va_T .int k.2.2.2.1 47 (fun j => .int (tabN.getD j 0)) A U H := h.2.2.1.2
theorem EV.zO (h : EV k A U H) : va_Z "LikelyBits" "OTHER_STATES" "[I" (.ref k.2.2.2.2.1) A U H := h.2.2.2.1.1
theorem EV.tO (h : EV k A U H) : va_T .int k.2.2.2.2.1 47 (fun j => .int (tabO.getD j 0)) A U H := h.2.2.2.1.2
theorem EV.hU (h : EV k A U H) : vx_Zq Bundle.tN "UNASSIGNED_STACK" Bundle.steD A U H := h.2.2.2.2.1
theorem EV.hN (h : EV k A U H) : vx_Zq Bundle.tN "SUPPRESSED_SENTINEL" Bundle.listD A U H := h.2.2.2.2.2.1
theorem EV.str (h : EV k A U H) (q : Nat × String) (hq : q ∈ gStr) : vk_R "LikelyBits" q.1 q.2 (k.2.2.2.2.2 q.1) U := h.2.2.2.2.2.2.1 q hq
theorem EV.nc (h : EV k A U H) (q : String × String) (hq : q ∈ gNc) : va_Nc q.1 q.2 U := h.2.2.2.2.2.2.2 q hq
theorem gTab.call {nm : String} {t : Nat} {l : List Int32} (h : gTab nm t l A s s.heap) (hS : va_S A s.heap U.heap locs) (hB : ∀ q, B q → A q) (hW : s.WarmedH U.vm) : gTab nm t l B U U.heap :=
  ⟨va_Z.moved hW.alike ((h.1.kept hS.2.1).narrow hB), va_T.moved hW.alike ((h.2.kept hS.2.1).narrow hB)⟩
theorem EV.call (h : EV k A s s.heap) (hS : va_S A s.heap H locs) (hB : ∀ q, B q → A q) (hU : U.heap = H) (hW : s.WarmedH U.vm) : EV k B U U.heap := by
  subst hU
  obtain ⟨h1, h2, h3, h4, h5, h6, h7, h8⟩ := h
  exact ⟨fun w hw => nwK_warm (List.mem_filter.mp hw).2 hW (h1 w hw), h2.call hS hB hW, h3.call hS hB hW, h4.call hS hB hW, vx_Zq.moved hW.alike ((h5.kept hS.2.1).narrow hB), vx_Zq.moved hW.alike ((h6.kept hS.2.1).narrow hB), fun q hq => vk_R.warm hW (h7 q hq), fun q hq => va_Nc.moved hW.alike (h8 q hq)⟩
theorem gTab.same {nm : String} {t : Nat} {l : List Int32} {H' : Heap} (hv : s.vm = U.vm) (hH : H = H') (h : gTab nm t l A s H) : gTab nm t l A U H' := by
  subst hH
  exact ⟨va_Z.moved (by rw [hv]; exact Vm.Alike.refl _) h.1, va_T.moved (by rw [hv]; exact Vm.Alike.refl _) h.2⟩
theorem EV.same {H' : Heap} (hv : s.vm = U.vm) (hH : H = H') (h : EV k A s H) : EV k A U H' := by
  obtain ⟨h1, h2, h3, h4, h5, h6, h7, h8⟩ := h
  have ha : s.vm.Alike U.vm := by rw [hv]; exact Vm.Alike.refl _
  subst hH
  exact ⟨fun w hw => va_Nw.same (nwK_tab (List.mem_filter.mp hw).2) hv (h1 w hw), h2.same hv rfl, h3.same hv rfl, h4.same hv rfl, vx_Zq.moved ha h5, vx_Zq.moved ha h6, fun q hq => vk_R.same hv.symm (h7 q hq), fun q hq => va_Nc.moved ha (h8 q hq)⟩
end EVA
/-! a callee's words -/
theorem gGood {w : Cond} (h : w ∈ AW) : w ∈ AW ∧ ((w.onTables && w.keeps) = true ∨ ∃ ty, w = .arrayClass ty) := ⟨h, good_of_word (AW_good h)⟩
theorem gI {y : MethodName} {b : ByteArray} {n : Nat} {r : Option FieldType} (h5 : Cond.code y b n r ∈ AW) : GoodIn AW (.code y b n r :: AW) := fun w hw => (List.mem_cons.mp hw).elim (fun e => by rw [e]; exact gGood h5) (fun h => gGood h)
theorem gV {own C : String} {idx : Nat} {y : MethodName} {b : ByteArray} {n : Nat} {r : Option FieldType} (h1 : Cond.methodLink own idx y ∈ AW) (h2 : Cond.instanceMethod y ∈ AW) (h3 : Cond.selects C y y ∈ AW) (h4 : Cond.initialized C ∈ AW) (h5 : Cond.code y b n r ∈ AW) : GoodIn AW (wsV own idx C y (.code y b n r :: AW)) := by
  intro w hw
  simp only [wsV, List.mem_append, List.mem_cons, List.not_mem_nil, or_false] at hw
  rcases hw with (rfl | rfl | rfl | rfl) | (rfl | h)
  · exact gGood h1
  · exact gGood h2
  · exact gGood h3
  · exact gGood h4
  · exact gGood h5
  · exact gGood h
theorem gS {own : String} {idx : Nat} {y : MethodName} {b : ByteArray} {n : Nat} {r : Option FieldType} (h1 : Cond.methodLink own idx y ∈ AW) (h2 : Cond.static y ∈ AW) (h4 : Cond.initialized own ∈ AW) (h5 : Cond.code y b n r ∈ AW) : GoodIn AW (wsS own idx y (.code y b n r :: AW)) := by
  intro w hw
  simp only [wsS, List.mem_append, List.mem_cons, List.not_mem_nil, or_false] at hw
  rcases hw with (rfl | rfl | rfl) | (rfl | h)
  · exact gGood h1
  · exact gGood h2
  · exact gGood h4
  · exact gGood h5
  · exact gGood h
/-! numbers -/
def jushr (x y : Int32) : Int32 := (x.toUInt32 >>> (y.toUInt32 &&& Int32.toUInt32 31)).toInt32
def jlushr (x : Int64) (y : Int32) : Int64 := (x.toUInt64 >>> (y.toInt64.toUInt64 &&& Int64.toUInt64 63)).toInt64
theorem ix_in {j : Int32} {n : Nat} (hn : n < 2 ^ 31) (c1 : ¬ j < 0) (c2 : ¬ nI n ≤ j) : vp_in j n := by
  obtain ⟨i, hi, rfl⟩ := nI_of c1
  rcases Nat.lt_or_ge i n with h | h
  · exact vp_in_nI h hn
  · exact absurd (nI_le h hi) c2
theorem bz_n {v : Int32} (h : v = 0 ∨ v = 1) : narrow .boolean (.int v) = .int v := by rcases h with rfl | rfl <;> rfl
theorem bz_f {v : Int32} (h : v = 0 ∨ v = 1) : fits .boolean (.int v) = true := by rcases h with rfl | rfl <;> rfl
end
section
/-! how a contract is opened, called and ended: my own rows over the kit's -/
section KA
variable {ws wc : va_W}
theorem ka_mem {is : List Nat} (hC : is.map (fun i => ws[i]?) = wc.map some) {j : Nat} {q : Nat × va_E} (h : wc[j]? = some q) : ∃ i : Nat, ws[i]? = some q := by
  have h1 : (is.map (fun i => ws[i]?))[j]? = some (some q) := by rw [hC, List.getElem?_map, h]; rfl
  rw [List.getElem?_map] at h1
  cases hi : is[j]? with
  | none => rw [hi] at h1; cases h1
  | some i => rw [hi] at h1; exact ⟨i, Option.some.inj h1⟩
theorem ka_P {D : va_G} {cl : List vw_C} {H : Heap} (hP : va_P D cl ws H) {is : List Nat} (hC : is.map (fun i => ws[i]?) = wc.map some) : va_P D cl wc H := fun _ _ hj => (ka_mem hC hj).elim fun _ hi => hP _ _ hi
theorem ka_keep {D : va_G} {cl : List vw_C} {H H1 : Heap} (hP : va_P D cl ws H) (h : ∀ q : Nat, q < H.size → H1[q]? = H[q]?) : va_P D cl ws H1 := hP.kept fun k q hk => h q.1 (hP k q hk).lt
end KA
/-- the world with which a method begins; one that it only reads -/
def GG (D : va_G) (k : gK) (ws : va_W) (sz : Nat) (U : State) : Prop := U.heap.size = sz ∧ va_P D vwCl ws U.heap ∧ va_K D vwCl (gTY k) U ∧ va_D (fun _ => True) ws ∧ EV k (va_A ws sz) U U.heap
def GR (D : va_G) (k : gK) (ws : va_W) (U : State) : Prop := va_P D vwCl ws U.heap ∧ va_K D vwCl (gTY k) U ∧ EV k (fun _ => False) U U.heap
/-- the world behind it -/
def GP (D : va_G) (A : Nat → Prop) (ws : va_W) (t : State) : Prop := va_P D vwCl ws t.heap ∧ va_D A ws
theorem GG.blind {D : va_G} {k : gK} {ws : va_W} {sz : Nat} {av : List Value} : FrameBlind (va_Pc av (GG D k ws sz)) := by
  intro a U g mk q
  obtain ⟨q0, q1, qP, qK, qD, qE⟩ := q
  exact ⟨q0, q1, qP, va_K.moved (u := U) (U := U.calling g mk a) (Vm.Alike.refl U.vm) qK, qD, EV.same (s := U) (U := U.calling g mk a) (H := U.heap) rfl rfl qE⟩
theorem GR.blind {D : va_G} {k : gK} {ws : va_W} {av : List Value} : FrameBlind (va_Pc av (GR D k ws)) := by
  intro a U g mk q
  obtain ⟨q0, qP, qK, qE⟩ := q
  exact ⟨q0, qP, va_K.moved (u := U) (U := U.calling g mk a) (Vm.Alike.refl U.vm) qK, EV.same (s := U) (U := U.calling g mk a) (H := U.heap) rfl rfl qE⟩
section KC
variable {p : Program} {l : Launch} {e : Env} {R : Room} {s : State} {m : MethodId} {args : Array Value} {below : List Frame} {meth : Method} {c : Code} {H : Heap} {locs : List Loc} {cells slots : Nat} {Q : State → Prop}
variable {D : va_G} {k : gK} {A : Nat → Prop} {ws wc wr : va_W}
/-- the facts that every walk has -/
def Cx (p : Program) (s : State) (m : MethodId) (args : Array Value) (meth : Method) (c : Code) (cc : ByteArray) (maxL : Nat) (ret : Option FieldType) (own nm : String) (D : va_G) (k : gK) (A : Nat → Prop) : Prop :=
  p.tables.exec = Jvm.exec ∧ c.code = cc ∧ c.maxLocals = maxL ∧ meth.sig.returnType = ret ∧ meth.locks = false ∧ s.vm.findClass own = some m.cls ∧ (∀ w ∈ AW, w.before args s = true) ∧ va_K D vwCl (gTY k) s ∧ EV k A s s.heap ∧ meth.name = nm
theorem kMet {y : MethodName} {cc : ByteArray} {maxL : Nat} {ret : Option FieldType} {rm : Room} {av : List Value} {sz : Nat} {Qc : (Nat → Prop) → Array Value → State → Outcome → State → Prop} {mc ms : Nat} {l : Launch} (hy : plainName y.cls = true) (hav : (lg_sl av).length ≤ maxL)
    (body : ∀ p e s m below meth c ls A H, Cx p s m av.toArray meth c cc maxL ret y.cls y.name D k A → va_P D vwCl ws H → va_D A ws → (∀ q : Nat, s.heap.size ≤ q → A q) → va_S A s.heap H [] → lv_has ls maxL (lv_args 0 av) →
      W p l e rm s m av.toArray below meth c H [] 0 0 (MQ below (Qc A) av.toArray s mc ms A) (F0 m 0 ls [])) :
    Met l y (.code y cc maxL ret :: AW) rm (va_Pc av (GG D k ws sz)) (Qc (va_A ws sz)) mc ms (va_A ws sz) := by
  refine Met.ofW (cc := cc) (maxL := maxL) (ret := ret) hy rfl ?_
  intro p e s m args below meth c s₁ B hml hv
  obtain ⟨rfl, hsz, hP, hK, hD0, hE⟩ := hv
  have hts := atoms_spec (ws := .code y cc maxL ret :: AW) B.pre
  subst hsz
  rw [lg_entry_eq]
  exact body p e s m below meth c _ _ _ ⟨B.exec, B.bytes, hml, B.returns, B.notSynchronized, findClass_of_methodNamed B.named, fun w h => hts w (List.mem_cons_of_mem _ h), hK, hE, (name_of_methodNamed B.named B.method).1⟩ hP hD0.self (fun q h => Or.inr h) va_S.rf (lv_entry av hav)
theorem kMetR {y : MethodName} {cc : ByteArray} {maxL : Nat} {ret : Option FieldType} {rm : Room} {av : List Value} {Qc : Array Value → State → Outcome → State → Prop} {mc ms : Nat} {l : Launch} (hy : plainName y.cls = true) (hav : (lg_sl av).length ≤ maxL)
    (body : ∀ p e s m below meth c ls H, Cx p s m av.toArray meth c cc maxL ret y.cls y.name D k (fun _ => False) → va_P D vwCl ws H → va_S (fun _ => False) s.heap H [] → lv_has ls maxL (lv_args 0 av) →
      W p l e rm s m av.toArray below meth c H [] 0 0 (MQ below Qc av.toArray s mc ms (fun _ => False)) (F0 m 0 ls [])) :
    Met l y (.code y cc maxL ret :: AW) rm (va_Pc av (GR D k ws)) Qc mc ms (fun _ => False) := by
  refine Met.ofW (cc := cc) (maxL := maxL) (ret := ret) hy rfl ?_
  intro p e s m args below meth c s₁ B hml hv
  obtain ⟨rfl, hP, hK, hE⟩ := hv
  have hts := atoms_spec (ws := .code y cc maxL ret :: AW) B.pre
  rw [lg_entry_eq]
  exact body p e s m below meth c _ _ ⟨B.exec, B.bytes, hml, B.returns, B.notSynchronized, findClass_of_methodNamed B.named, fun w h => hts w (List.mem_cons_of_mem _ h), hK, hE, (name_of_methodNamed B.named B.method).1⟩ hP va_S.rf (lv_entry av hav)
/-- before a call -/
theorem kPre (hE : EV k A s s.heap) (hK : va_K D vwCl (gTY k) s) (hP : va_P D vwCl ws H) (hD : va_D A ws) (hS : va_S A s.heap H locs) (hA : ∀ q : Nat, s.heap.size ≤ q → A q) (isC : List Nat) (hC : isC.map (fun i => ws[i]?) = wc.map some) (hn : va_nd isC = true) {av : List Value} :
    PreS s H (va_Pc av (GG D k wc H.size)) av :=
  ⟨GG.blind, fun U hU hW => ⟨rfl, by rw [hU], by rw [hU]; exact ka_P hP hC, va_K.moved hW.alike hK, (hD.sub isC hn hC).weaken (fun _ _ _ _ => trivial), hE.call hS (va_free (wc := wc) hD hS hA isC hC) hU hW⟩⟩
theorem kPreR (hE : EV k A s s.heap) (hK : va_K D vwCl (gTY k) s) (hP : va_P D vwCl ws H) (hS : va_S A s.heap H locs) (isC : List Nat) (hC : isC.map (fun i => ws[i]?) = wc.map some) {av : List Value} :
    PreS s H (va_Pc av (GR D k wc)) av :=
  ⟨GR.blind, fun U hU hW => ⟨rfl, by rw [hU]; exact ka_P hP hC, va_K.moved hW.alike hK, hE.call hS (fun _ h => h.elim) hU hW⟩⟩
/-- the receiver is the first of the callee's cells -/
theorem kRecv (hK : va_K D vwCl (gTY k) s) (hP : va_P D vwCl ws H) {q0 ci b : Nat} {q : vw_C} {fs : List Value} (hc : vwCl[ci]? = some q) (he : ws[q0]? = some (b, .inr (ci, fs))) {Pc : Array Value → State → Prop} {As : List Value} (h : PreS s H Pc (.ref b :: As)) : PreV s H q.1 b Pc As :=
  ⟨h.1, va_recv hK hP hc he, h.2⟩
/-- behind a call that writes -/
theorem kcv {S Z : Type} {post : S → Prop} {ex : Z → S → Prop} {wo : Z → S → va_W} {mc ms pc : Nat} {ls : Array Slot} {st0 rest : List Value} {a : Array Value}
    (hr : va_Run p l e R s m args below meth c H locs cells slots mc ms (F0 m pc ls st0) rest (va_Qv post (fun u t => ∃ z, ex z u ∧ GP D (va_A wc H.size) (wo z u) t) (va_A wc H.size) a) (va_A wc H.size))
    (hP : va_P D vwCl ws H) (hD : va_D A ws) (hS : va_S A s.heap H locs) (hA : ∀ q : Nat, s.heap.size ≤ q → A q) (isC isR : List Nat) (hC : isC.map (fun i => ws[i]?) = wc.map some) (hR : isR.map (fun i => ws[i]?) = wr.map some) (hn : va_nd isR = true) (hdis : ∀ i ∈ isR, i ∉ isC)
    (kk : ∀ (z : Z) (u : S) (H1 : Heap) (locs1 : List Loc), post u → ex z u → va_P D vwCl (wr ++ wo z u) H1 → va_D A (wr ++ wo z u) → va_S A s.heap H1 locs1 → W p l e R s m args below meth c H1 locs1 (cells + mc) (slots + ms) Q (F0 m (pc + 3) ls rest)) :
    W p l e R s m args below meth c H locs cells slots Q (F0 m pc ls st0) := by
  have hFc := va_free (wc := wc) hD hS hA isC hC
  refine va_callv hr hS (fun q _ h => hFc q h) hFc (fun u t H1 locs1 ht hvm hw hB hz1 hk1 hS1 => ?_)
  obtain ⟨z, hz, hP1, hD1⟩ := hB
  rw [ht] at hP1
  obtain ⟨hP2, hD2⟩ := va_join (wr := wr) (w1 := wo z u) hP hD isC isR hC hR hn hdis hk1 hFc hP1 hD1
  exact kk z u H1 locs1 hw hz hP2 hD2 hS1
theorem kci {S Z : Type} {post : Int32 → S → Prop} {ex : Z → S → Prop} {wo : Z → S → va_W} {mc ms pc : Nat} {ls : Array Slot} {st0 rest : List Value} {a : Array Value}
    (hr : va_Run p l e R s m args below meth c H locs cells slots mc ms (F0 m pc ls st0) rest (va_Qi post (fun u t => ∃ z, ex z u ∧ GP D (va_A wc H.size) (wo z u) t) (va_A wc H.size) a) (va_A wc H.size))
    (hP : va_P D vwCl ws H) (hD : va_D A ws) (hS : va_S A s.heap H locs) (hA : ∀ q : Nat, s.heap.size ≤ q → A q) (isC isR : List Nat) (hC : isC.map (fun i => ws[i]?) = wc.map some) (hR : isR.map (fun i => ws[i]?) = wr.map some) (hn : va_nd isR = true) (hdis : ∀ i ∈ isR, i ∉ isC)
    (kk : ∀ (r : Int32) (z : Z) (u : S) (H1 : Heap) (locs1 : List Loc), post r u → ex z u → va_P D vwCl (wr ++ wo z u) H1 → va_D A (wr ++ wo z u) → va_S A s.heap H1 locs1 → W p l e R s m args below meth c H1 locs1 (cells + mc) (slots + ms) Q (F0 m (pc + 3) ls (.int r :: rest))) :
    W p l e R s m args below meth c H locs cells slots Q (F0 m pc ls st0) := by
  have hFc := va_free (wc := wc) hD hS hA isC hC
  refine va_calli hr hS (fun q _ h => hFc q h) hFc (fun r u t H1 locs1 ht hvm hw hB hz1 hk1 hS1 => ?_)
  obtain ⟨z, hz, hP1, hD1⟩ := hB
  rw [ht] at hP1
  obtain ⟨hP2, hD2⟩ := va_join (wr := wr) (w1 := wo z u) hP hD isC isR hC hR hn hdis hk1 hFc hP1 hD1
  exact kk r z u H1 locs1 hw hz hP2 hD2 hS1
theorem kcl {S Z : Type} {post : Int64 → S → Prop} {ex : Z → S → Prop} {wo : Z → S → va_W} {mc ms pc : Nat} {ls : Array Slot} {st0 rest : List Value} {a : Array Value}
    (hr : va_Run p l e R s m args below meth c H locs cells slots mc ms (F0 m pc ls st0) rest (va_Ql post (fun u t => ∃ z, ex z u ∧ GP D (va_A wc H.size) (wo z u) t) (va_A wc H.size) a) (va_A wc H.size))
    (hP : va_P D vwCl ws H) (hD : va_D A ws) (hS : va_S A s.heap H locs) (hA : ∀ q : Nat, s.heap.size ≤ q → A q) (isC isR : List Nat) (hC : isC.map (fun i => ws[i]?) = wc.map some) (hR : isR.map (fun i => ws[i]?) = wr.map some) (hn : va_nd isR = true) (hdis : ∀ i ∈ isR, i ∉ isC)
    (kk : ∀ (r : Int64) (z : Z) (u : S) (H1 : Heap) (locs1 : List Loc), post r u → ex z u → va_P D vwCl (wr ++ wo z u) H1 → va_D A (wr ++ wo z u) → va_S A s.heap H1 locs1 → W p l e R s m args below meth c H1 locs1 (cells + mc) (slots + ms) Q (F0 m (pc + 3) ls (.long r :: rest))) :
    W p l e R s m args below meth c H locs cells slots Q (F0 m pc ls st0) := by
  have hFc := va_free (wc := wc) hD hS hA isC hC
  refine va_calll hr hS (fun q _ h => hFc q h) hFc (fun r u t H1 locs1 ht hvm hw hB hz1 hk1 hS1 => ?_)
  obtain ⟨z, hz, hP1, hD1⟩ := hB
  rw [ht] at hP1
  obtain ⟨hP2, hD2⟩ := va_join (wr := wr) (w1 := wo z u) hP hD isC isR hC hR hn hdis hk1 hFc hP1 hD1
  exact kk r z u H1 locs1 hw hz hP2 hD2 hS1
/-- behind a call that only reads: nothing has changed -/
theorem kqi {pr : Int32 → Prop} {mc ms pc : Nat} {ls : Array Slot} {st0 rest : List Value} {a : Array Value}
    (hr : va_Run p l e R s m args below meth c H locs cells slots mc ms (F0 m pc ls st0) rest (va_Qi (fun r (_ : Unit) => pr r) (fun _ _ => True) (fun _ => False) a) (fun _ => False))
    (hP : va_P D vwCl ws H) (hS : va_S A s.heap H locs)
    (kk : ∀ (r : Int32) (H1 : Heap) (locs1 : List Loc), pr r → va_P D vwCl ws H1 → va_S A s.heap H1 locs1 → W p l e R s m args below meth c H1 locs1 (cells + mc) (slots + ms) Q (F0 m (pc + 3) ls (.int r :: rest))) :
    W p l e R s m args below meth c H locs cells slots Q (F0 m pc ls st0) := by
  refine va_calli hr hS (fun q _ h => h.elim) (fun q h => h.elim) (fun r u t H1 locs1 ht hvm hw hB hz1 hk1 hS1 => ?_)
  exact kk r H1 locs1 hw (ka_keep hP (fun q hq => hk1 q hq (fun h => h))) hS1
theorem kql {pr : Int64 → Prop} {mc ms pc : Nat} {ls : Array Slot} {st0 rest : List Value} {a : Array Value}
    (hr : va_Run p l e R s m args below meth c H locs cells slots mc ms (F0 m pc ls st0) rest (va_Ql (fun r (_ : Unit) => pr r) (fun _ _ => True) (fun _ => False) a) (fun _ => False))
    (hP : va_P D vwCl ws H) (hS : va_S A s.heap H locs)
    (kk : ∀ (r : Int64) (H1 : Heap) (locs1 : List Loc), pr r → va_P D vwCl ws H1 → va_S A s.heap H1 locs1 → W p l e R s m args below meth c H1 locs1 (cells + mc) (slots + ms) Q (F0 m (pc + 3) ls (.long r :: rest))) :
    W p l e R s m args below meth c H locs cells slots Q (F0 m pc ls st0) := by
  refine va_calll hr hS (fun q _ h => h.elim) (fun q h => h.elim) (fun r u t H1 locs1 ht hvm hw hB hz1 hk1 hS1 => ?_)
  exact kk r H1 locs1 hw (ka_keep hP (fun q hq => hk1 q hq (fun h => h))) hS1
/-- a reference that is read off -/
theorem kqr {pr : Nat → Prop} {mc ms pc : Nat} {ls : Array Slot} {st0 rest : List Value} {a : Array Value}
    (hr : va_Run p l e R s m args below meth c H locs cells slots mc ms (F0 m pc ls st0) rest (va_Qr (fun (_ : Unit) => True) (fun _ ra _ => pr ra) (fun _ => False) a) (fun _ => False))
    (hP : va_P D vwCl ws H) (hS : va_S A s.heap H locs)
    (kk : ∀ (r : Nat) (H1 : Heap) (locs1 : List Loc), pr r → va_P D vwCl ws H1 → va_S A s.heap H1 locs1 → W p l e R s m args below meth c H1 locs1 (cells + mc) (slots + ms) Q (F0 m (pc + 3) ls (.ref r :: rest))) :
    W p l e R s m args below meth c H locs cells slots Q (F0 m pc ls st0) := by
  refine va_callr hr hS (fun q _ h => h.elim) (fun q h => h.elim) (fun u ra t H1 locs1 ht hvm hw hB hz1 hk1 hS1 => ?_)
  exact kk ra H1 locs1 hB (ka_keep hP (fun q hq => hk1 q hq (fun h => h))) hS1
/-- the ends -/
theorem krv {S Z : Type} {post : S → Prop} {ex : Z → S → Prop} {wo : Z → S → va_W} {cc : ByteArray} {pc mc ms : Nat} {ls : Array Slot} (hx : p.tables.exec = Jvm.exec) (hb : c.code = cc) (hr : meth.sig.returnType = none) (hlk : meth.locks = false)
    (hP : va_P D vwCl ws H) (hD : va_D A ws) (hS : va_S A s.heap H locs) (u : S) (z : Z) (hw : post u) (hz : ex z u) (is : List Nat) (hC : is.map (fun i => ws[i]?) = (wo z u).map some) (hn : va_nd is = true) (hc : cells ≤ mc) (hs : slots ≤ ms) (hdg : decode cc pc = .ok (.return_, 1)) :
    W p l e R s m args below meth c H locs cells slots (MQ below (va_Qv post (fun u t => ∃ z, ex z u ∧ GP D A (wo z u) t) A) args s mc ms A) (F0 m pc ls []) :=
  W.widen hc hs (W.vret hx hb hr (fun t ht _ => ⟨⟨u, rfl, hw, z, hz, by rw [ht]; exact ka_P hP hC, hD.sub is hn hC⟩, hS.F ht⟩) hS.2.2 hdg hlk)
theorem kri {S Z : Type} {post : Int32 → S → Prop} {ex : Z → S → Prop} {wo : Z → S → va_W} {cc : ByteArray} {pc mc ms : Nat} {ls : Array Slot} {v : Int32} (hx : p.tables.exec = Jvm.exec) (hb : c.code = cc) (hr : meth.sig.returnType = some .int) (hlk : meth.locks = false)
    (hP : va_P D vwCl ws H) (hD : va_D A ws) (hS : va_S A s.heap H locs) (u : S) (z : Z) (hw : post v u) (hz : ex z u) (is : List Nat) (hC : is.map (fun i => ws[i]?) = (wo z u).map some) (hn : va_nd is = true) (hc : cells ≤ mc) (hs : slots ≤ ms) (hdg : decode cc pc = .ok (.ireturn, 1)) :
    W p l e R s m args below meth c H locs cells slots (MQ below (va_Qi post (fun u t => ∃ z, ex z u ∧ GP D A (wo z u) t) A) args s mc ms A) (F0 m pc ls [.int v]) :=
  W.widen hc hs (W.iret hx hb hr (fun t ht _ => ⟨⟨v, u, rfl, hw, z, hz, by rw [ht]; exact ka_P hP hC, hD.sub is hn hC⟩, hS.F ht⟩) hS.2.2 hdg hlk)
theorem krl {S Z : Type} {post : Int64 → S → Prop} {ex : Z → S → Prop} {wo : Z → S → va_W} {cc : ByteArray} {pc mc ms : Nat} {ls : Array Slot} {v : Int64} (hx : p.tables.exec = Jvm.exec) (hb : c.code = cc) (hr : meth.sig.returnType = some .long) (hlk : meth.locks = false)
    (hP : va_P D vwCl ws H) (hD : va_D A ws) (hS : va_S A s.heap H locs) (u : S) (z : Z) (hw : post v u) (hz : ex z u) (is : List Nat) (hC : is.map (fun i => ws[i]?) = (wo z u).map some) (hn : va_nd is = true) (hc : cells ≤ mc) (hs : slots ≤ ms) (hdg : decode cc pc = .ok (.lreturn, 1)) :
    W p l e R s m args below meth c H locs cells slots (MQ below (va_Ql post (fun u t => ∃ z, ex z u ∧ GP D A (wo z u) t) A) args s mc ms A) (F0 m pc ls [.long v]) :=
  W.widen hc hs (W.lret hx hb hr (fun t ht _ => ⟨⟨v, u, rfl, hw, z, hz, by rw [ht]; exact ka_P hP hC, hD.sub is hn hC⟩, hS.F ht⟩) hS.2.2 hdg hlk)
theorem koi {pr : Int32 → Prop} {cc : ByteArray} {pc mc ms : Nat} {ls : Array Slot} {v : Int32} (hx : p.tables.exec = Jvm.exec) (hb : c.code = cc) (hr : meth.sig.returnType = some .int) (hlk : meth.locks = false)
    (hS : va_S (fun _ => False) s.heap H locs) (hw : pr v) (hc : cells ≤ mc) (hs : slots ≤ ms) (hdg : decode cc pc = .ok (.ireturn, 1)) :
    W p l e R s m args below meth c H locs cells slots (MQ below (va_Qi (fun r (_ : Unit) => pr r) (fun _ _ => True) (fun _ => False)) args s mc ms (fun _ => False)) (F0 m pc ls [.int v]) :=
  W.widen hc hs (W.iret hx hb hr (fun t ht _ => ⟨⟨v, (), rfl, hw, trivial⟩, hS.F ht⟩) hS.2.2 hdg hlk)
theorem koz {pr : Int32 → Prop} {cc : ByteArray} {pc mc ms : Nat} {ls : Array Slot} {v : Int32} (hx : p.tables.exec = Jvm.exec) (hb : c.code = cc) (hr : meth.sig.returnType = some .boolean) (hlk : meth.locks = false)
    (hS : va_S (fun _ => False) s.heap H locs) (hv : v = 0 ∨ v = 1) (hw : pr v) (hc : cells ≤ mc) (hs : slots ≤ ms) (hdg : decode cc pc = .ok (.ireturn, 1)) :
    W p l e R s m args below meth c H locs cells slots (MQ below (va_Qi (fun r (_ : Unit) => pr r) (fun _ _ => True) (fun _ => False)) args s mc ms (fun _ => False)) (F0 m pc ls [.int v]) :=
  W.widen hc hs (W.zret (ty := .boolean) hx hb hr (by rcases hv with rfl | rfl <;> rfl) (fun t ht _ => ⟨⟨v, (), rfl, hw, trivial⟩, hS.F ht⟩) hS.2.2 hdg hlk)
theorem kor {pr : Nat → Prop} {cc : ByteArray} {pc mc ms : Nat} {ls : Array Slot} {v : Nat} {C : String} (hx : p.tables.exec = Jvm.exec) (hb : c.code = cc) (hr : meth.sig.returnType = some (.object C)) (hlk : meth.locks = false)
    (hS : va_S (fun _ => False) s.heap H locs) (hw : pr v) (hc : cells ≤ mc) (hs : slots ≤ ms) (hdg : decode cc pc = .ok (.areturn, 1)) :
    W p l e R s m args below meth c H locs cells slots (MQ below (va_Qr (fun (_ : Unit) => True) (fun _ ra _ => pr ra) (fun _ => False)) args s mc ms (fun _ => False)) (F0 m pc ls [.ref v]) :=
  W.widen hc hs (W.aret hx hb hr (Or.inl ⟨_, rfl⟩) (Or.inr ⟨_, rfl⟩) (fun t ht _ => ⟨⟨(), v, rfl, trivial, hw⟩, hS.F ht⟩) hS.2.2 hdg hlk)
end KC
end
section
/-! the row of bytes: L is what is in it, n its width, f its cells, u its count -/
section NA
variable {D : va_G} {cl : List vw_C} {k : gK} {s : State} {cA : ClassId}
theorem newa_int (h : va_K D cl (gTY k ++ [(cA, .int)]) s) : cA = k.1 := by
  have h1 : s.vm.findClass ("[" ++ FieldType.int.toString) = some cA := (h.2 2 _ rfl).2
  have h0 : s.vm.findClass ("[" ++ FieldType.int.toString) = some k.1 := (h.2 0 _ rfl).2
  exact Option.some.inj (h1.symm.trans h0)
theorem newa_long (h : va_K D cl (gTY k ++ [(cA, .long)]) s) : cA = k.2.1 := by
  have h1 : s.vm.findClass ("[" ++ FieldType.long.toString) = some cA := (h.2 2 _ rfl).2
  have h0 : s.vm.findClass ("[" ++ FieldType.long.toString) = some k.2.1 := (h.2 1 _ rfl).2
  exact Option.some.inj (h1.symm.trans h0)
end NA
def row_ok (n : Nat) (f : Nat → Int32) (u : Int32) (L : List Int32) : Prop := u = nI L.length ∧ L.length ≤ n ∧ 256 ≤ n ∧ (∃ j : Nat, n * 2 ^ j = 65536) ∧ ∀ j, j < L.length → f j = L.getD j 255
/-- byte x of the row, 255 where there is none -/
def rb (L : List Int32) (x : Int32) : Int32 := if x < 0 then 255 else L.getD x.toNatClampNeg 255
def rs (L : List Int32) (x b : Int32) : List Int32 := if x < 0 then L else L.set x.toNatClampNeg b
def apn (n : Nat) (L : List Int32) : Nat := if L.length < n then n else if 65536 ≤ n then n else 2 * n
def app (L : List Int32) (b : Int32) : List Int32 := if L.length < 65536 then L ++ [b] else L
section RW
variable {n : Nat} {f : Nat → Int32} {u : Int32} {L : List Int32} {x b : Int32}
theorem row_le (h : row_ok n f u L) : n ≤ 65536 := by
  obtain ⟨j, hj⟩ := h.2.2.2.1
  have h1 : 1 ≤ 2 ^ j := Nat.one_le_two_pow
  calc n = n * 1 := (Nat.mul_one n).symm
    _ ≤ n * 2 ^ j := Nat.mul_le_mul_left n h1
    _ = 65536 := hj
theorem row_half (h : row_ok n f u L) (hn : ¬ 65536 ≤ n) : ∃ j : Nat, (2 * n) * 2 ^ j = 65536 := by
  obtain ⟨j, hj⟩ := h.2.2.2.1
  cases j with
  | zero => simp at hj; omega
  | succ j => exact ⟨j, by rw [← hj, Nat.pow_succ, Nat.mul_comm 2 n, Nat.mul_assoc, Nat.mul_comm 2 (2 ^ j)]⟩
theorem row_len (h : row_ok n f u L) : L.length ≤ 65536 := Nat.le_trans h.2.1 (row_le h)
theorem rb_neg (c : x < 0) : (255 : Int32) = rb L x := by rw [rb, if_pos c]
theorem rb_out (h : row_ok n f u L) (c1 : ¬ x < 0) (c2 : u ≤ x) : (255 : Int32) = rb L x := by
  have hl := row_len h
  obtain ⟨j, hj, rfl⟩ := nI_of c1
  rw [h.1] at c2
  have : L.length ≤ j := (nI_leI (by omega) hj).mp c2
  rw [rb, if_neg c1, nI_clamp hj, List.getD_eq_getElem?_getD, List.getElem?_eq_none this]; rfl
theorem row_dead (h : row_ok n f u L) (c1 : ¬ x < 0) (c2 : ¬ u ≤ x) (c3 : nI n ≤ x) : False := by
  have hl := row_le h
  obtain ⟨j, hj, rfl⟩ := nI_of c1
  rw [h.1] at c2
  have h3 : n ≤ j := (nI_leI (by omega) hj).mp c3
  exact c2 (nI_le (Nat.le_trans h.2.1 h3) hj)
theorem row_in (h : row_ok n f u L) (c1 : ¬ x < 0) (c3 : ¬ nI n ≤ x) : vp_in x n := ix_in (by have := row_le h; omega) c1 c3
theorem rb_in (h : row_ok n f u L) (c1 : ¬ x < 0) (c2 : ¬ u ≤ x) : f x.toNatClampNeg = rb L x := by
  obtain ⟨j, hj, rfl⟩ := nI_of c1
  rw [h.1] at c2
  have hlt : j < L.length := by
    rcases Nat.lt_or_ge j L.length with q | q
    · exact q
    · exact absurd (nI_le q hj) c2
  rw [rb, if_neg c1, nI_clamp hj, h.2.2.2.2 j hlt]
theorem rs_neg (c : x < 0) : L = rs L x b := by rw [rs, if_pos c]
theorem rs_out (h : row_ok n f u L) (c1 : ¬ x < 0) (c2 : u ≤ x) : L = rs L x b := by
  have hl := row_len h
  obtain ⟨j, hj, rfl⟩ := nI_of c1
  rw [h.1] at c2
  have : L.length ≤ j := (nI_leI (by omega) hj).mp c2
  rw [rs, if_neg c1, nI_clamp hj, List.set_eq_of_length_le this]
theorem rs_ok (h : row_ok n f u L) (c1 : ¬ x < 0) : row_ok n (upd f x.toNatClampNeg b) u (rs L x b) := by
  obtain ⟨h1, h2, h3, h4, h5⟩ := h
  have e : (rs L x b).length = L.length := by rw [rs, if_neg c1, List.length_set]
  refine ⟨by rw [e]; exact h1, by rw [e]; exact h2, h3, h4, fun j hj => ?_⟩
  rw [e] at hj
  rw [rs, if_neg c1, upd]
  by_cases q : j = x.toNatClampNeg
  · rw [if_pos q, q, List.getD_eq_getElem?_getD, List.getElem?_set_self (by omega)]; rfl
  · rw [if_neg q, h5 j hj, List.getD_eq_getElem?_getD, List.getD_eq_getElem?_getD, List.getElem?_set_ne (Ne.symm q)]
theorem row_ok_nil (h : row_ok n f u L) : row_ok n f 0 [] := ⟨rfl, Nat.zero_le _, h.2.2.1, h.2.2.2.1, fun j hj => absurd hj (Nat.not_lt_zero j)⟩
theorem row_drop (h : row_ok n f u L) (c : ¬ u ≤ 0) : row_ok n f (u - 1) L.dropLast := by
  have hl := row_len h
  obtain ⟨h1, h2, h3, h4, h5⟩ := h
  have hp : 0 < L.length := by
    rcases Nat.eq_zero_or_pos L.length with q | q
    · rw [h1, q] at c; exact absurd (by decide) c
    · exact q
  refine ⟨?_, by rw [List.length_dropLast]; omega, h3, h4, fun j hj => ?_⟩
  · rw [List.length_dropLast, h1]
    obtain ⟨q, hq⟩ : ∃ q, L.length = q + 1 := ⟨L.length - 1, by omega⟩
    rw [hq]; exact nI_pred q
  · rw [List.length_dropLast] at hj
    rw [h5 j (by omega), List.getD_eq_getElem?_getD, List.getD_eq_getElem?_getD, List.getElem?_dropLast, if_pos hj]
theorem row_nodrop (h : row_ok n f u L) (c : u ≤ 0) : L = L.dropLast := by
  have hl := row_len h
  rw [h.1] at c
  have h0 : L.length = 0 := by
    rcases Nat.eq_zero_or_pos L.length with q | q
    · exact q
    · exact absurd c (nI_nle q (by omega))
  rw [List.length_eq_zero_iff.mp h0]; rfl
theorem app_out (h : row_ok n f u L) (c : nI n ≤ u) (hn : apn n L = n) : L = app L b := by
  have hl := row_len h
  have hn2 := row_le h
  rw [h.1] at c
  have c' : n ≤ L.length := (nI_leI (by omega) (by omega)).mp c
  have h3 := h.2.2.1
  have : ¬ L.length < 65536 := by
    intro q
    rw [apn, if_neg (by omega)] at hn
    split at hn <;> omega
  rw [app, if_neg this]
theorem app_ok (h : row_ok n f u L) (c : ¬ nI n ≤ u) : row_ok n (upd f u.toNatClampNeg b) (u + 1) (app L b) := by
  have hl := row_len h
  have hn2 := row_le h
  obtain ⟨h1, h2, h3, h4, h5⟩ := h
  subst h1
  have c' : L.length < n := by
    rcases Nat.lt_or_ge L.length n with q | q
    · exact q
    · exact absurd (nI_le q (by omega)) c
  have e : app L b = L ++ [b] := by rw [app, if_pos (by omega)]
  rw [e, nI_clamp (by omega)]
  refine ⟨by rw [List.length_append]; exact nI_1 _, by rw [List.length_append]; simp; omega, h3, h4, fun j hj => ?_⟩
  rw [List.length_append] at hj
  simp only [List.length_cons, List.length_nil] at hj
  rw [upd, List.getD_eq_getElem?_getD]
  by_cases q : j = L.length
  · rw [if_pos q, q, List.getElem?_append_right (Nat.le_refl _)]; simp
  · rw [if_neg q, List.getElem?_append_left (by omega), h5 j (by omega), List.getD_eq_getElem?_getD]
theorem row_neg (h : row_ok n f u L) : ¬ u < 0 := by
  have hl := row_len h
  rw [h.1]; exact nI_pos (by omega)
theorem row_wide (h : row_ok n f u L) (c : nI n ≤ u) (hn : ¬ 65536 ≤ n) : row_ok (2 * n) (va_cpy f (fun _ => 0) 0 0 n) u L := by
  obtain ⟨j, hj⟩ := row_half h hn
  obtain ⟨h1, h2, h3, h4, h5⟩ := h
  exact ⟨h1, by omega, by omega, ⟨j, hj⟩, fun i hi => by rw [← h5 i hi, va_cpy, if_pos ⟨Nat.zero_le _, by omega⟩]; simp⟩
end RW
theorem ha_int (n : Nat) : ∀ cA : ClassId, vp_cell cA (n, .inl (fun _ => 0)) = arrV cA n (fun _ => defaultValue .int) := fun _ => rfl
theorem ha_long (n : Nat) : ∀ cA : ClassId, vp_cell cA (n, .inr (.inl (fun _ => 0))) = arrV cA n (fun _ => defaultValue .long) := fun _ => rfl
end
section
section KD
variable {p : Program} {l : Launch} {e : Env} {R : Room} {s : State} {m : MethodId} {args : Array Value} {below : List Frame} {meth : Method} {c : Code} {H : Heap} {locs : List Loc} {cells slots : Nat} {Q : State → Prop}
variable {D : va_G} {k : gK} {A : Nat → Prop} {ws wc wr : va_W}
theorem kca {S Z : Type} {post : S → Prop} {ex : Z → S → Prop} {wo : Z → S → Nat → va_W} {mc ms pc : Nat} {ls : Array Slot} {st0 rest : List Value} {a : Array Value}
    (hr : va_Run p l e R s m args below meth c H locs cells slots mc ms (F0 m pc ls st0) rest (va_Qr post (fun u ra t => ∃ z, ex z u ∧ GP D (va_A wc H.size) (wo z u ra) t) (va_A wc H.size) a) (va_A wc H.size))
    (hP : va_P D vwCl ws H) (hD : va_D A ws) (hS : va_S A s.heap H locs) (hA : ∀ q : Nat, s.heap.size ≤ q → A q) (isC isR : List Nat) (hC : isC.map (fun i => ws[i]?) = wc.map some) (hR : isR.map (fun i => ws[i]?) = wr.map some) (hn : va_nd isR = true) (hdis : ∀ i ∈ isR, i ∉ isC)
    (kk : ∀ (ra : Nat) (z : Z) (u : S) (H1 : Heap) (locs1 : List Loc), post u → ex z u → va_P D vwCl (wr ++ wo z u ra) H1 → va_D A (wr ++ wo z u ra) → va_S A s.heap H1 locs1 → W p l e R s m args below meth c H1 locs1 (cells + mc) (slots + ms) Q (F0 m (pc + 3) ls (.ref ra :: rest))) :
    W p l e R s m args below meth c H locs cells slots Q (F0 m pc ls st0) := by
  have hFc := va_free (wc := wc) hD hS hA isC hC
  refine va_callr hr hS (fun q _ h => hFc q h) hFc (fun u ra t H1 locs1 ht hvm hw hB hz1 hk1 hS1 => ?_)
  obtain ⟨z, hz, hP1, hD1⟩ := hB
  rw [ht] at hP1
  obtain ⟨hP2, hD2⟩ := va_join (wr := wr) (w1 := wo z u ra) hP hD isC isR hC hR hn hdis hk1 hFc hP1 hD1
  exact kk ra z u H1 locs1 hw hz hP2 hD2 hS1
theorem kra {S Z : Type} {post : S → Prop} {ex : Z → S → Prop} {wo : Z → S → Nat → va_W} {cc : ByteArray} {pc mc ms : Nat} {ls : Array Slot} {v : Nat} {rt : FieldType} (hx : p.tables.exec = Jvm.exec) (hb : c.code = cc) (hr : meth.sig.returnType = some rt) (hrt : (∃ n, rt = .object n) ∨ ∃ t, rt = .array t) (hlk : meth.locks = false)
    (hP : va_P D vwCl ws H) (hD : va_D A ws) (hS : va_S A s.heap H locs) (u : S) (z : Z) (hw : post u) (hz : ex z u) (is : List Nat) (hC : is.map (fun i => ws[i]?) = (wo z u v).map some) (hn : va_nd is = true) (hc : cells ≤ mc) (hs : slots ≤ ms) (hdg : decode cc pc = .ok (.areturn, 1)) :
    W p l e R s m args below meth c H locs cells slots (MQ below (va_Qr post (fun u ra t => ∃ z, ex z u ∧ GP D A (wo z u ra) t) A) args s mc ms A) (F0 m pc ls [.ref v]) :=
  W.widen hc hs (W.aret hx hb hr hrt (Or.inr ⟨_, rfl⟩) (fun t ht _ => ⟨⟨u, v, rfl, hw, z, hz, by rw [ht]; exact ka_P hP hC, hD.sub is hn hC⟩, hS.F ht⟩) hS.2.2 hdg hlk)
end KD
section RW2
variable {n : Nat} {f : Nat → Int32} {u : Int32} {L : List Int32} {x b : Int32}
theorem apn_lt (h : row_ok n f u L) (c : u < nI n) : n = apn n L := by
  have hl := row_len h
  have hn := row_le h
  rw [h.1] at c
  rw [apn, if_pos ((nI_ltI (by omega) (by omega)).mp c)]
theorem apn_ge (h : row_ok n f u L) (c : ¬ u < nI n) : ¬ L.length < n := by
  have hl := row_len h
  have hn := row_le h
  rw [h.1] at c
  exact fun q => c (nI_lt q (by omega))
theorem apn_full (h : row_ok n f u L) (c : ¬ u < nI n) (c2 : (65536 : Int32) ≤ nI n) : n = apn n L := by
  have hn := row_le h
  rw [apn, if_neg (apn_ge h c), if_pos ((nI_leI (a := 65536) (by omega) (by omega)).mp c2)]
theorem apn_grow (h : row_ok n f u L) (c : ¬ u < nI n) (c2 : ¬ (65536 : Int32) ≤ nI n) : 2 * n = apn n L ∧ ¬ 65536 ≤ n ∧ 2 * n ≤ 65536 := by
  have hn := row_le h
  have h3 : ¬ 65536 ≤ n := fun q => c2 (nI_le (a := 65536) q (by omega))
  obtain ⟨j, hj⟩ := row_half h h3
  have h1 : 1 ≤ 2 ^ j := Nat.one_le_two_pow
  refine ⟨by rw [apn, if_neg (apn_ge h c), if_neg h3], h3, ?_⟩
  calc 2 * n = (2 * n) * 1 := (Nat.mul_one _).symm
    _ ≤ (2 * n) * 2 ^ j := Nat.mul_le_mul_left _ h1
    _ = 65536 := hj
theorem app_full (h : row_ok n f u L) (c : ¬ u < nI n) (c2 : (65536 : Int32) ≤ nI n) : L = app L b := by
  have hn := row_le h
  have h1 := apn_ge h c
  have h2 : 65536 ≤ n := (nI_leI (a := 65536) (by omega) (by omega)).mp c2
  rw [app, if_neg (by omega)]
theorem two_nI (n : Nat) : (2 : Int32) * nI n = nI (2 * n) := pk_mul 2 n
theorem min_grow (h : 2 * n ≤ 65536) : (if (2 : Int32) * nI n < 65536 then (2 : Int32) * nI n else 65536) = nI (2 * n) := by
  rw [two_nI]
  split
  · rfl
  · rename_i h2
    have : ¬ 2 * n < 65536 := fun q => h2 (nI_lt (b := 65536) q (by omega))
    have e : 2 * n = 65536 := by omega
    rw [e]; rfl
theorem lt_le32 {a b : Int32} (h : a < b) (h2 : b ≤ a) : False := by
  have h1 := Int32.lt_iff_toInt_lt.mp h
  have h3 := Int32.le_iff_toInt_le.mp h2
  omega
theorem wide_in (h : row_ok n f u L) (hn : ¬ 65536 ≤ n) (c : nI (2 * n) ≤ u) : False := by
  have hl := row_len h
  have h2 := h.2.1
  have h3 := h.2.2.1
  rw [h.1] at c
  have := (nI_leI (by omega) (by omega)).mp c
  omega
end RW2
end
section
set_option maxRecDepth 20000 in
theorem mw_0 : (Cond.fieldLink R_Row 15 "LikelyBits$Row" "used" "I") ∈ AW := inAW (List.mem_append_right _ (show _ ∈ tables_1_1 ++ (tables_1_2 ++ (tables_1_3 ++ tables_1_4)) from (List.mem_append_left _ (List.mem_of_getElem? (i := 36) rfl)))) rfl
set_option maxRecDepth 20000 in
theorem mw_1 : (Cond.fieldLink R_Row 11 "LikelyBits$Row" "cells" "[I") ∈ AW := inAW (List.mem_append_right _ (show _ ∈ tables_1_1 ++ (tables_1_2 ++ (tables_1_3 ++ tables_1_4)) from (List.mem_append_left _ (List.mem_of_getElem? (i := 35) rfl)))) rfl
set_option maxHeartbeats 1000000 in
set_option maxRecDepth 100000 in
theorem c_Row_count (l : Launch) (hl9 : l.stackTraces = false) (D : va_G) (k : gK) (h0 : Nat) (h1 : Nat) (u : Int32) : Met l y_Row_count (.code y_Row_count b_Row_count 1 (some .int) :: AW) { frames := 0, cells := 0, slots := 0, locals := 0 } (va_Pc [.ref h0] (GR D k [(h0, .inr (0, [.ref h1, .int u]))])) (va_Qi (fun r (_ : Unit) => r = u) (fun _ _ => True) (fun _ => False)) 0 0 (fun _ => False) := by
  refine kMetR (ws := [(h0, .inr (0, [.ref h1, .int u]))]) (by decide) (Nat.le_of_ble_eq_true rfl) (fun p e s m below meth c ls H Cc hP hS hl => ?_)
  obtain ⟨hx, hb, hml, hr, hlk, hown, hts, hK, hE, hin⟩ := Cc
  have hl : lv_has ls 1 [(0, .ref h0)] := hl
  refine lv_aload_n hx hb d_Row_count_0 rfl (lv_at hl 0 rfl) ?_
  refine va_get (D := D) (ci := 0) (v := .int u) (C := R_Row) (T := T_Row) (N := 2) hx hb hts inw_Row hown hK hP 0 rfl rfl 1 (by decide) (hts (.fieldLink R_Row 15 "LikelyBits$Row" "used" "I") mw_0) (fun _ h9 => h9) rfl d_Row_count_1 ?_
  exact koi hx hb hr hlk hS rfl (Nat.le_of_ble_eq_true rfl) (Nat.le_of_ble_eq_true rfl) d_Row_count_4

set_option maxHeartbeats 1000000 in
set_option maxRecDepth 100000 in
theorem c_Row_byteAt (l : Launch) (hl9 : l.stackTraces = false) (D : va_G) (k : gK) (h0 h1 : Nat) (n : Nat) (f : Nat → Int32) (u : Int32) (L : List Int32) (x : Int32) (hR : row_ok n f u L) : Met l y_Row_byteAt (.code y_Row_byteAt b_Row_byteAt 2 (some .int) :: AW) { frames := 0, cells := 0, slots := 0, locals := 0 } (va_Pc [.ref h0, .int x] (GR D k [(h0, .inr (0, [.ref h1, .int u])), (h1, .inl (k.1, n, .inl f))])) (va_Qi (fun r (_ : Unit) => r = rb L x) (fun _ _ => True) (fun _ => False)) 0 0 (fun _ => False) := by
  refine kMetR (ws := [(h0, .inr (0, [.ref h1, .int u])), (h1, .inl (k.1, n, .inl f))]) (by decide) (Nat.le_of_ble_eq_true rfl) (fun p e s m below meth c ls H Cc hP hS hl => ?_)
  obtain ⟨hx, hb, hml, hr, hlk, hown, hts, hK, hE, hin⟩ := Cc
  have hl : lv_has ls 2 [(0, .ref h0), (1, .int x)] := hl
  refine lv_iload_n hx hb d_Row_byteAt_0 rfl (lv_at hl 1 rfl) ?_
  refine lv_if_lt (tgt := 30) hx hb d_Row_byteAt_1 (by decide) (fun c1 => ?_) (fun c1 => ?_)
  · refine lv_sipush (v := 255) hx hb d_Row_byteAt_30 (by decide) ?_
    exact koi hx hb hr hlk hS (rb_neg c1) (Nat.le_of_ble_eq_true rfl) (Nat.le_of_ble_eq_true rfl) d_Row_byteAt_33
  · refine lv_iload_n hx hb d_Row_byteAt_4 rfl (lv_at hl 1 rfl) ?_
    refine lv_aload_n hx hb d_Row_byteAt_5 rfl (lv_at hl 0 rfl) ?_
    refine va_get (D := D) (ci := 0) (v := .int u) (C := R_Row) (T := T_Row) (N := 2) hx hb hts inw_Row hown hK hP 0 rfl rfl 1 (by decide) (hts (.fieldLink R_Row 15 "LikelyBits$Row" "used" "I") mw_0) (fun _ h9 => h9) rfl d_Row_byteAt_6 ?_
    refine lv_icmp_ge (tgt := 30) hx hb d_Row_byteAt_9 (by decide) (fun c2 => ?_) (fun c2 => ?_)
    · refine lv_sipush (v := 255) hx hb d_Row_byteAt_30 (by decide) ?_
      exact koi hx hb hr hlk hS (rb_out hR c1 c2) (Nat.le_of_ble_eq_true rfl) (Nat.le_of_ble_eq_true rfl) d_Row_byteAt_33
    · refine lv_iload_n hx hb d_Row_byteAt_12 rfl (lv_at hl 1 rfl) ?_
      refine lv_aload_n hx hb d_Row_byteAt_13 rfl (lv_at hl 0 rfl) ?_
      refine va_get (D := D) (ci := 0) (v := .ref h1) (C := R_Row) (T := T_Row) (N := 2) hx hb hts inw_Row hown hK hP 0 rfl rfl 0 (by decide) (hts (.fieldLink R_Row 11 "LikelyBits$Row" "cells" "[I") mw_1) (fun _ h9 => h9) rfl d_Row_byteAt_14 ?_
      refine va_alen (v := nI n) hx hb hK hP 1 0 rfl rfl rfl d_Row_byteAt_17 ?_
      refine lv_icmp_ge (tgt := 30) hx hb d_Row_byteAt_18 (by decide) (fun c3 => ?_) (fun c3 => ?_)
      · exact (row_dead hR c1 c2 c3).elim
      · refine lv_aload_n hx hb d_Row_byteAt_21 rfl (lv_at hl 0 rfl) ?_
        refine va_get (D := D) (ci := 0) (v := .ref h1) (C := R_Row) (T := T_Row) (N := 2) hx hb hts inw_Row hown hK hP 0 rfl rfl 0 (by decide) (hts (.fieldLink R_Row 11 "LikelyBits$Row" "cells" "[I") mw_1) (fun _ h9 => h9) rfl d_Row_byteAt_22 ?_
        refine lv_iload_n hx hb d_Row_byteAt_25 rfl (lv_at hl 1 rfl) ?_
        refine va_iald hx hb hK hP 1 0 rfl rfl (row_in hR c1 c3) d_Row_byteAt_26 ?_
        refine lv_goto (tgt := 33) hx hb d_Row_byteAt_27 (by decide) ?_
        exact koi hx hb hr hlk hS (rb_in hR c1 c2) (Nat.le_of_ble_eq_true rfl) (Nat.le_of_ble_eq_true rfl) d_Row_byteAt_33

def wo_Row_change (k : gK) (h0 h1 : Nat) (n : Nat) (f : Nat → Int32) (u : Int32) (L : List Int32) (x : Int32) (b : Int32) (zz : Nat → Int32) (uu : List Int32) : va_W := match zz, uu with
  | f2, L2 => [(h0, .inr (0, [.ref h1, .int u])), (h1, .inl (k.1, n, .inl f2))]
def ex_Row_change (k : gK) (h0 h1 : Nat) (n : Nat) (f : Nat → Int32) (u : Int32) (L : List Int32) (x : Int32) (b : Int32) (zz : Nat → Int32) (uu : List Int32) : Prop := match zz, uu with
  | f2, L2 => row_ok n f2 u L2
def po_Row_change (k : gK) (h0 h1 : Nat) (n : Nat) (f : Nat → Int32) (u : Int32) (L : List Int32) (x : Int32) (b : Int32) (uu : List Int32) : Prop := match uu with
  | L2 => L2 = rs L x b
def qc_Row_change (D : va_G) (k : gK) (h0 h1 : Nat) (n : Nat) (f : Nat → Int32) (u : Int32) (L : List Int32) (x : Int32) (b : Int32) (A : Nat → Prop) : Array Value → State → Outcome → State → Prop := va_Qv (po_Row_change k h0 h1 n f u L x b) (fun uu t => ∃ zz, ex_Row_change k h0 h1 n f u L x b zz uu ∧ GP D A (wo_Row_change k h0 h1 n f u L x b zz uu) t) A
set_option maxHeartbeats 1000000 in
set_option maxRecDepth 100000 in
theorem c_Row_change (l : Launch) (hl9 : l.stackTraces = false) (D : va_G) (k : gK) (h0 h1 : Nat) (zsz : Nat) (n : Nat) (f : Nat → Int32) (u : Int32) (L : List Int32) (x : Int32) (b : Int32) (hR : row_ok n f u L) : Met l y_Row_change (.code y_Row_change b_Row_change 3 none :: AW) ({ frames := 0, cells := 0, slots := 0, locals := 0 }) (va_Pc [.ref h0, .int x, .int b] (GG D k [(h0, .inr (0, [.ref h1, .int u])), (h1, .inl (k.1, n, .inl f))] zsz)) (qc_Row_change D k h0 h1 n f u L x b (va_A [(h0, .inr (0, [.ref h1, .int u])), (h1, .inl (k.1, n, .inl f))] zsz)) 0 0 (va_A [(h0, .inr (0, [.ref h1, .int u])), (h1, .inl (k.1, n, .inl f))] zsz) := by
  refine kMet (ws := [(h0, .inr (0, [.ref h1, .int u])), (h1, .inl (k.1, n, .inl f))]) (Qc := qc_Row_change D k h0 h1 n f u L x b) (by decide) (Nat.le_of_ble_eq_true rfl) (fun p e s m below meth c ls A H Cc hP hD hA hS hl => ?_)
  obtain ⟨hx, hb, hml, hr, hlk, hown, hts, hK, hE, hin⟩ := Cc
  have hl : lv_has ls 3 [(0, .ref h0), (1, .int x), (2, .int b)] := hl
  refine lv_iload_n hx hb d_Row_change_0 rfl (lv_at hl 1 rfl) ?_
  refine lv_if_lt (tgt := 28) hx hb d_Row_change_1 (by decide) (fun c1 => ?_) (fun c1 => ?_)
  · exact krv (wo := wo_Row_change k h0 h1 n f u L x b) hx hb hr hlk hP hD hS L f (rs_neg c1) hR [0, 1] rfl (by decide) (Nat.le_of_ble_eq_true rfl) (Nat.le_of_ble_eq_true rfl) d_Row_change_28
  · refine lv_iload_n hx hb d_Row_change_4 rfl (lv_at hl 1 rfl) ?_
    refine lv_aload_n hx hb d_Row_change_5 rfl (lv_at hl 0 rfl) ?_
    refine va_get (D := D) (ci := 0) (v := .int u) (C := R_Row) (T := T_Row) (N := 2) hx hb hts inw_Row hown hK hP 0 rfl rfl 1 (by decide) (hts (.fieldLink R_Row 15 "LikelyBits$Row" "used" "I") mw_0) (fun _ h9 => h9) rfl d_Row_change_6 ?_
    refine lv_icmp_ge (tgt := 28) hx hb d_Row_change_9 (by decide) (fun c2 => ?_) (fun c2 => ?_)
    · exact krv (wo := wo_Row_change k h0 h1 n f u L x b) hx hb hr hlk hP hD hS L f (rs_out hR c1 c2) hR [0, 1] rfl (by decide) (Nat.le_of_ble_eq_true rfl) (Nat.le_of_ble_eq_true rfl) d_Row_change_28
    · refine lv_iload_n hx hb d_Row_change_12 rfl (lv_at hl 1 rfl) ?_
      refine lv_aload_n hx hb d_Row_change_13 rfl (lv_at hl 0 rfl) ?_
      refine va_get (D := D) (ci := 0) (v := .ref h1) (C := R_Row) (T := T_Row) (N := 2) hx hb hts inw_Row hown hK hP 0 rfl rfl 0 (by decide) (hts (.fieldLink R_Row 11 "LikelyBits$Row" "cells" "[I") mw_1) (fun _ h9 => h9) rfl d_Row_change_14 ?_
      refine va_alen (v := nI n) hx hb hK hP 1 0 rfl rfl rfl d_Row_change_17 ?_
      refine lv_icmp_ge (tgt := 28) hx hb d_Row_change_18 (by decide) (fun c3 => ?_) (fun c3 => ?_)
      · exact (row_dead hR c1 c2 c3).elim
      · refine lv_aload_n hx hb d_Row_change_21 rfl (lv_at hl 0 rfl) ?_
        refine va_get (D := D) (ci := 0) (v := .ref h1) (C := R_Row) (T := T_Row) (N := 2) hx hb hts inw_Row hown hK hP 0 rfl rfl 0 (by decide) (hts (.fieldLink R_Row 11 "LikelyBits$Row" "cells" "[I") mw_1) (fun _ h9 => h9) rfl d_Row_change_22 ?_
        refine lv_iload_n hx hb d_Row_change_25 rfl (lv_at hl 1 rfl) ?_
        refine lv_iload_n hx hb d_Row_change_26 rfl (lv_at hl 2 rfl) ?_
        refine va_iast hx hb hK hP hD hS 1 0 rfl rfl (row_in hR c1 c3) d_Row_change_27 (fun H locs hP hD hS => ?_)
        have hP : va_P D vwCl [(h0, .inr (0, [.ref h1, .int u])), (h1, .inl (k.1, n, .inl (upd f x.toNatClampNeg b)))] H := hP
        have hD : va_D A [(h0, .inr (0, [.ref h1, .int u])), (h1, .inl (k.1, n, .inl (upd f x.toNatClampNeg b)))] := hD
        exact krv (wo := wo_Row_change k h0 h1 n f u L x b) hx hb hr hlk hP hD hS (rs L x b) (upd f x.toNatClampNeg b) rfl (rs_ok hR c1) [0, 1] rfl (by decide) (Nat.le_of_ble_eq_true rfl) (Nat.le_of_ble_eq_true rfl) d_Row_change_28

def wo_Row_empty (k : gK) (h0 h1 : Nat) (n : Nat) (f : Nat → Int32) (u : Int32) (L : List Int32) (zz : Int32) (uu : List Int32) : va_W := match zz, uu with
  | u2, L2 => [(h0, .inr (0, [.ref h1, .int u2])), (h1, .inl (k.1, n, .inl f))]
def ex_Row_empty (k : gK) (h0 h1 : Nat) (n : Nat) (f : Nat → Int32) (u : Int32) (L : List Int32) (zz : Int32) (uu : List Int32) : Prop := match zz, uu with
  | u2, L2 => row_ok n f u2 L2
def po_Row_empty (k : gK) (h0 h1 : Nat) (n : Nat) (f : Nat → Int32) (u : Int32) (L : List Int32) (uu : List Int32) : Prop := match uu with
  | L2 => L2 = []
def qc_Row_empty (D : va_G) (k : gK) (h0 h1 : Nat) (n : Nat) (f : Nat → Int32) (u : Int32) (L : List Int32) (A : Nat → Prop) : Array Value → State → Outcome → State → Prop := va_Qv (po_Row_empty k h0 h1 n f u L) (fun uu t => ∃ zz, ex_Row_empty k h0 h1 n f u L zz uu ∧ GP D A (wo_Row_empty k h0 h1 n f u L zz uu) t) A
set_option maxHeartbeats 1000000 in
set_option maxRecDepth 100000 in
theorem c_Row_empty (l : Launch) (hl9 : l.stackTraces = false) (D : va_G) (k : gK) (h0 h1 : Nat) (zsz : Nat) (n : Nat) (f : Nat → Int32) (u : Int32) (L : List Int32) (hR : row_ok n f u L) : Met l y_Row_empty (.code y_Row_empty b_Row_empty 1 none :: AW) ({ frames := 0, cells := 0, slots := 0, locals := 0 }) (va_Pc [.ref h0] (GG D k [(h0, .inr (0, [.ref h1, .int u])), (h1, .inl (k.1, n, .inl f))] zsz)) (qc_Row_empty D k h0 h1 n f u L (va_A [(h0, .inr (0, [.ref h1, .int u])), (h1, .inl (k.1, n, .inl f))] zsz)) 0 0 (va_A [(h0, .inr (0, [.ref h1, .int u])), (h1, .inl (k.1, n, .inl f))] zsz) := by
  refine kMet (ws := [(h0, .inr (0, [.ref h1, .int u])), (h1, .inl (k.1, n, .inl f))]) (Qc := qc_Row_empty D k h0 h1 n f u L) (by decide) (Nat.le_of_ble_eq_true rfl) (fun p e s m below meth c ls A H Cc hP hD hA hS hl => ?_)
  obtain ⟨hx, hb, hml, hr, hlk, hown, hts, hK, hE, hin⟩ := Cc
  have hl : lv_has ls 1 [(0, .ref h0)] := hl
  refine lv_aload_n hx hb d_Row_empty_0 rfl (lv_at hl 0 rfl) ?_
  refine lv_iconst (v := 0) hx hb d_Row_empty_1 (by decide) ?_
  refine va_put (D := D) (ci := 0) (v := .int 0) (ty := .int) (C := R_Row) (T := T_Row) (N := 2) hx hb hts inw_Row ty_Row tyok_Row nm_Row hown hK hP hD hS 0 rfl rfl 1 (by decide) (hts (.fieldLink R_Row 15 "LikelyBits$Row" "used" "I") mw_0) (fun _ h9 => h9) rfl (by decide +kernel) rfl rfl (Nat.le_of_ble_eq_true rfl) d_Row_empty_2 (fun H locs hP hD hS => ?_)
  have hP : va_P D vwCl [(h0, .inr (0, [.ref h1, .int 0])), (h1, .inl (k.1, n, .inl f))] H := hP
  have hD : va_D A [(h0, .inr (0, [.ref h1, .int 0])), (h1, .inl (k.1, n, .inl f))] := hD
  exact krv (wo := wo_Row_empty k h0 h1 n f u L) hx hb hr hlk hP hD hS [] 0 rfl (row_ok_nil hR) [0, 1] rfl (by decide) (Nat.le_of_ble_eq_true rfl) (Nat.le_of_ble_eq_true rfl) d_Row_empty_5

def wo_Row_dropLast (k : gK) (h0 h1 : Nat) (n : Nat) (f : Nat → Int32) (u : Int32) (L : List Int32) (zz : Int32) (uu : List Int32) : va_W := match zz, uu with
  | u2, L2 => [(h0, .inr (0, [.ref h1, .int u2])), (h1, .inl (k.1, n, .inl f))]
def ex_Row_dropLast (k : gK) (h0 h1 : Nat) (n : Nat) (f : Nat → Int32) (u : Int32) (L : List Int32) (zz : Int32) (uu : List Int32) : Prop := match zz, uu with
  | u2, L2 => row_ok n f u2 L2
def po_Row_dropLast (k : gK) (h0 h1 : Nat) (n : Nat) (f : Nat → Int32) (u : Int32) (L : List Int32) (uu : List Int32) : Prop := match uu with
  | L2 => L2 = L.dropLast
def qc_Row_dropLast (D : va_G) (k : gK) (h0 h1 : Nat) (n : Nat) (f : Nat → Int32) (u : Int32) (L : List Int32) (A : Nat → Prop) : Array Value → State → Outcome → State → Prop := va_Qv (po_Row_dropLast k h0 h1 n f u L) (fun uu t => ∃ zz, ex_Row_dropLast k h0 h1 n f u L zz uu ∧ GP D A (wo_Row_dropLast k h0 h1 n f u L zz uu) t) A
set_option maxHeartbeats 1000000 in
set_option maxRecDepth 100000 in
theorem c_Row_dropLast (l : Launch) (hl9 : l.stackTraces = false) (D : va_G) (k : gK) (h0 h1 : Nat) (zsz : Nat) (n : Nat) (f : Nat → Int32) (u : Int32) (L : List Int32) (hR : row_ok n f u L) : Met l y_Row_dropLast (.code y_Row_dropLast b_Row_dropLast 1 none :: AW) ({ frames := 0, cells := 0, slots := 0, locals := 0 }) (va_Pc [.ref h0] (GG D k [(h0, .inr (0, [.ref h1, .int u])), (h1, .inl (k.1, n, .inl f))] zsz)) (qc_Row_dropLast D k h0 h1 n f u L (va_A [(h0, .inr (0, [.ref h1, .int u])), (h1, .inl (k.1, n, .inl f))] zsz)) 0 0 (va_A [(h0, .inr (0, [.ref h1, .int u])), (h1, .inl (k.1, n, .inl f))] zsz) := by
  refine kMet (ws := [(h0, .inr (0, [.ref h1, .int u])), (h1, .inl (k.1, n, .inl f))]) (Qc := qc_Row_dropLast D k h0 h1 n f u L) (by decide) (Nat.le_of_ble_eq_true rfl) (fun p e s m below meth c ls A H Cc hP hD hA hS hl => ?_)
  obtain ⟨hx, hb, hml, hr, hlk, hown, hts, hK, hE, hin⟩ := Cc
  have hl : lv_has ls 1 [(0, .ref h0)] := hl
  refine lv_aload_n hx hb d_Row_dropLast_0 rfl (lv_at hl 0 rfl) ?_
  refine va_get (D := D) (ci := 0) (v := .int u) (C := R_Row) (T := T_Row) (N := 2) hx hb hts inw_Row hown hK hP 0 rfl rfl 1 (by decide) (hts (.fieldLink R_Row 15 "LikelyBits$Row" "used" "I") mw_0) (fun _ h9 => h9) rfl d_Row_dropLast_1 ?_
  refine lv_if_le (tgt := 17) hx hb d_Row_dropLast_4 (by decide) (fun c1 => ?_) (fun c1 => ?_)
  · exact krv (wo := wo_Row_dropLast k h0 h1 n f u L) hx hb hr hlk hP hD hS L u (row_nodrop hR c1) hR [0, 1] rfl (by decide) (Nat.le_of_ble_eq_true rfl) (Nat.le_of_ble_eq_true rfl) d_Row_dropLast_17
  · refine lv_aload_n hx hb d_Row_dropLast_7 rfl (lv_at hl 0 rfl) ?_
    refine lv_dup hx hb d_Row_dropLast_8 rfl ?_
    refine va_get (D := D) (ci := 0) (v := .int u) (C := R_Row) (T := T_Row) (N := 2) hx hb hts inw_Row hown hK hP 0 rfl rfl 1 (by decide) (hts (.fieldLink R_Row 15 "LikelyBits$Row" "used" "I") mw_0) (fun _ h9 => h9) rfl d_Row_dropLast_9 ?_
    refine lv_iconst (v := 1) hx hb d_Row_dropLast_12 (by decide) ?_
    refine lv_isub hx hb d_Row_dropLast_13 ?_
    refine lv_topi (fun x2 ex2 => ?_)
    refine va_put (D := D) (ci := 0) (v := .int x2) (ty := .int) (C := R_Row) (T := T_Row) (N := 2) hx hb hts inw_Row ty_Row tyok_Row nm_Row hown hK hP hD hS 0 rfl rfl 1 (by decide) (hts (.fieldLink R_Row 15 "LikelyBits$Row" "used" "I") mw_0) (fun _ h9 => h9) rfl (by decide +kernel) rfl rfl (Nat.le_of_ble_eq_true rfl) d_Row_dropLast_14 (fun H locs hP hD hS => ?_)
    have hP : va_P D vwCl [(h0, .inr (0, [.ref h1, .int x2])), (h1, .inl (k.1, n, .inl f))] H := hP
    have hD : va_D A [(h0, .inr (0, [.ref h1, .int x2])), (h1, .inl (k.1, n, .inl f))] := hD
    exact krv (wo := wo_Row_dropLast k h0 h1 n f u L) hx hb hr hlk hP hD hS L.dropLast x2 rfl (by rw [ex2]; exact row_drop hR c1) [0, 1] rfl (by decide) (Nat.le_of_ble_eq_true rfl) (Nat.le_of_ble_eq_true rfl) d_Row_dropLast_17
end
section
set_option maxRecDepth 20000 in
theorem mw_2 : (Cond.methodLink R_Row 3 objectInit) ∈ AW := inAW (List.mem_append_right _ (show _ ∈ tables_1_1 ++ (tables_1_2 ++ (tables_1_3 ++ tables_1_4)) from (List.mem_append_left _ (List.mem_of_getElem? (i := 34) rfl)))) rfl
set_option maxRecDepth 20000 in
theorem mw_3 : (Cond.instanceMethod objectInit) ∈ AW := inAW (List.mem_append_right _ (show _ ∈ tables_1_1 ++ (tables_1_2 ++ (tables_1_3 ++ tables_1_4)) from (List.mem_append_left _ (List.mem_of_getElem? (i := 27) rfl)))) rfl
set_option maxRecDepth 20000 in
theorem mw_4 : (Cond.code objectInit ⟨#[0xb1]⟩ 1 none) ∈ AW := inAW (List.mem_append_right _ (show _ ∈ tables_1_1 ++ (tables_1_2 ++ (tables_1_3 ++ tables_1_4)) from (List.mem_append_left _ (List.mem_of_getElem? (i := 28) rfl)))) rfl
set_option maxRecDepth 20000 in
theorem mw_5 : (Cond.arrayClass .int) ∈ AW := inAW (List.mem_append_right _ (show _ ∈ tables_1_1 ++ (tables_1_2 ++ (tables_1_3 ++ tables_1_4)) from (List.mem_append_left _ (List.mem_of_getElem? (i := 42) rfl)))) rfl
def wo_Row_init (k : gK) (h0 : Nat) (zz : Nat) (uu : Unit) : va_W := match zz, uu with
  | q2, _ => [(h0, .inr (0, [.ref q2, .int 0])), (q2, .inl (k.1, 256, .inl (fun _ => 0)))]
def ex_Row_init (k : gK) (h0 : Nat) (zz : Nat) (uu : Unit) : Prop := match zz, uu with
  | q2, _ => True
def po_Row_init (k : gK) (h0 : Nat) (uu : Unit) : Prop := match uu with
  | _ => True
def qc_Row_init (D : va_G) (k : gK) (h0 : Nat) (A : Nat → Prop) : Array Value → State → Outcome → State → Prop := va_Qv (po_Row_init k h0) (fun uu t => ∃ zz, ex_Row_init k h0 zz uu ∧ GP D A (wo_Row_init k h0 zz uu) t) A
set_option maxHeartbeats 1000000 in
set_option maxRecDepth 100000 in
theorem c_Row_init (l : Launch) (hl9 : l.stackTraces = false) (D : va_G) (k : gK) (h0 : Nat) (zsz : Nat)  : Met l y_Row_init (.code y_Row_init b_Row_init 1 none :: AW) ({ frames := 1, cells := 1, slots := 256, locals := 22 }) (va_Pc [.ref h0] (GG D k [(h0, .inr (0, [.null, .int 0]))] zsz)) (qc_Row_init D k h0 (va_A [(h0, .inr (0, [.null, .int 0]))] zsz)) 1 256 (va_A [(h0, .inr (0, [.null, .int 0]))] zsz) := by
  refine kMet (ws := [(h0, .inr (0, [.null, .int 0]))]) (Qc := qc_Row_init D k h0) (by decide) (Nat.le_of_ble_eq_true rfl) (fun p e s m below meth c ls A H Cc hP hD hA hS hl => ?_)
  obtain ⟨hx, hb, hml, hr, hlk, hown, hts, hK, hE, hin⟩ := Cc
  have hl : lv_has ls 1 [(0, .ref h0)] := hl
  refine lv_aload_n hx hb d_Row_init_0 rfl (lv_at hl 0 rfl) ?_
  refine W.objInit hx hb hown (hts (.methodLink R_Row 3 objectInit) mw_2) (hts (.instanceMethod objectInit) mw_3) (hts (.code objectInit ⟨#[0xb1]⟩ 1 none) mw_4) rfl (by rw [hml]; exact hl.1) rfl d_Row_init_1 (Nat.le_of_ble_eq_true rfl) (Nat.le_of_ble_eq_true rfl) ?_
  refine W.eq (g2 := F0 m 4 ls []) rfl ?_
  refine lv_aload_n hx hb d_Row_init_4 rfl (lv_at hl 0 rfl) ?_
  refine lv_sipush (v := 256) hx hb d_Row_init_5 (by decide) ?_
  refine va_newa (atype := .int) (ty := .int) (N' := 256) (a0 := (256, .inl (fun _ => 0))) hx hb (hts (.arrayClass .int) mw_5) rfl hK hP hD hS hA (ha_int 256) (by decide +kernel) (by decide +kernel) (by decide +kernel) (by first | omega | (dsimp only; omega)) (by first | omega | (dsimp only; omega)) d_Row_init_8 (fun q1 cA H hK1 hP hD hS => ?_)
  have ecA := newa_int hK1
  subst ecA
  have hP : va_P D vwCl [(h0, .inr (0, [.null, .int 0])), (q1, .inl (k.1, 256, .inl (fun _ => 0)))] H := hP
  have hD : va_D A [(h0, .inr (0, [.null, .int 0])), (q1, .inl (k.1, 256, .inl (fun _ => 0)))] := hD
  refine va_put (D := D) (ci := 0) (v := .ref q1) (ty := .array .int) (C := R_Row) (T := T_Row) (N := 2) hx hb hts inw_Row ty_Row tyok_Row nm_Row hown hK hP hD hS 0 rfl rfl 0 (by decide) (hts (.fieldLink R_Row 11 "LikelyBits$Row" "cells" "[I") mw_1) (fun _ h9 => h9) rfl (by decide +kernel) rfl rfl (Nat.le_of_ble_eq_true rfl) d_Row_init_10 (fun H locs hP hD hS => ?_)
  have hP : va_P D vwCl [(h0, .inr (0, [.ref q1, .int 0])), (q1, .inl (k.1, 256, .inl (fun _ => 0)))] H := hP
  have hD : va_D A [(h0, .inr (0, [.ref q1, .int 0])), (q1, .inl (k.1, 256, .inl (fun _ => 0)))] := hD
  exact krv (wo := wo_Row_init k h0) hx hb hr hlk hP hD hS () q1 trivial trivial [0, 1] rfl (by decide) (by first | omega | (dsimp only; omega)) (by first | omega | (dsimp only; omega)) d_Row_init_13
end
section
set_option maxRecDepth 20000 in
theorem mw_6 : (Cond.methodLink R_Arr 304 Lib.Math.min.name) ∈ AW := inAW (List.mem_append_right _ (show _ ∈ tables_1_1 ++ (tables_1_2 ++ (tables_1_3 ++ tables_1_4)) from (List.mem_append_right _ (List.mem_append_left _ (List.mem_of_getElem? (i := 120) rfl))))) rfl
set_option maxRecDepth 20000 in
theorem mw_7 : (Cond.static Lib.Math.min.name) ∈ AW := inAW (List.mem_append_right _ (show _ ∈ tables_1_1 ++ (tables_1_2 ++ (tables_1_3 ++ tables_1_4)) from (List.mem_append_right _ (List.mem_append_left _ (List.mem_of_getElem? (i := 108) rfl))))) rfl
set_option maxRecDepth 20000 in
theorem mw_8 : (Cond.initialized "java/lang/Math") ∈ AW := inAW (List.mem_append_right _ (show _ ∈ tables_1_1 ++ (tables_1_2 ++ (tables_1_3 ++ tables_1_4)) from (List.mem_append_left _ (List.mem_of_getElem? (i := 17) rfl)))) rfl
set_option maxRecDepth 20000 in
theorem mw_9 : (Cond.code Lib.Math.min.name Lib.Math.min.code 2 (some .int)) ∈ AW := inAW (List.mem_append_right _ (show _ ∈ tables_1_1 ++ (tables_1_2 ++ (tables_1_3 ++ tables_1_4)) from (List.mem_append_right _ (List.mem_append_left _ (List.mem_of_getElem? (i := 109) rfl))))) rfl
set_option maxRecDepth 20000 in
theorem mw_10 : (Cond.methodLink R_Arr 150 arraycopyName) ∈ AW := inAW (List.mem_append_right _ (show _ ∈ tables_1_1 ++ (tables_1_2 ++ (tables_1_3 ++ tables_1_4)) from (List.mem_append_right _ (List.mem_append_left _ (List.mem_of_getElem? (i := 121) rfl))))) rfl
set_option maxRecDepth 20000 in
theorem mw_11 : (Cond.native arraycopyName) ∈ AW := inAW (List.mem_append_right _ (show _ ∈ tables_1_1 ++ (tables_1_2 ++ (tables_1_3 ++ tables_1_4)) from (List.mem_append_right _ (List.mem_append_left _ (List.mem_of_getElem? (i := 123) rfl))))) rfl
set_option maxRecDepth 20000 in
theorem mw_12 : (Cond.static arraycopyName) ∈ AW := inAW (List.mem_append_right _ (show _ ∈ tables_1_1 ++ (tables_1_2 ++ (tables_1_3 ++ tables_1_4)) from (List.mem_append_right _ (List.mem_append_left _ (List.mem_of_getElem? (i := 122) rfl))))) rfl
set_option maxRecDepth 20000 in
theorem mw_13 : (Cond.initialized "java/lang/System") ∈ AW := inAW (List.mem_append_right _ (show _ ∈ tables_1_1 ++ (tables_1_2 ++ (tables_1_3 ++ tables_1_4)) from (List.mem_append_left _ (List.mem_of_getElem? (i := 19) rfl)))) rfl
set_option maxRecDepth 20000 in
theorem mw_14 : (Cond.constant R_Row 19 65536) ∈ AW := inAW (List.mem_append_right _ (show _ ∈ tables_1_1 ++ (tables_1_2 ++ (tables_1_3 ++ tables_1_4)) from (List.mem_append_right _ (List.mem_append_left _ (List.mem_of_getElem? (i := 106) rfl))))) rfl
set_option maxRecDepth 20000 in
theorem mw_15 : (Cond.methodLink R_Row 20 Lib.Math.min.name) ∈ AW := inAW (List.mem_append_right _ (show _ ∈ tables_1_1 ++ (tables_1_2 ++ (tables_1_3 ++ tables_1_4)) from (List.mem_append_right _ (List.mem_append_left _ (List.mem_of_getElem? (i := 107) rfl))))) rfl
set_option maxRecDepth 20000 in
theorem mw_16 : (Cond.code y_Arr_copyOf b_Arr_copyOf 3 (some (.array .int))) ∈ AW := inAW (List.mem_append_right _ (show _ ∈ tables_1_1 ++ (tables_1_2 ++ (tables_1_3 ++ tables_1_4)) from (List.mem_append_right _ (List.mem_append_left _ (List.mem_of_getElem? (i := 112) rfl))))) rfl
set_option maxRecDepth 20000 in
theorem mw_17 : (Cond.initialized R_Arr) ∈ AW := inAW (List.mem_append_right _ (show _ ∈ tables_1_1 ++ (tables_1_2 ++ (tables_1_3 ++ tables_1_4)) from (List.mem_append_left _ (List.mem_of_getElem? (i := 18) rfl)))) rfl
set_option maxRecDepth 20000 in
theorem mw_18 : (Cond.methodLink R_Row 26 y_Arr_copyOf) ∈ AW := inAW (List.mem_append_right _ (show _ ∈ tables_1_1 ++ (tables_1_2 ++ (tables_1_3 ++ tables_1_4)) from (List.mem_append_right _ (List.mem_append_left _ (List.mem_of_getElem? (i := 110) rfl))))) rfl
set_option maxRecDepth 20000 in
theorem mw_19 : (Cond.static y_Arr_copyOf) ∈ AW := inAW (List.mem_append_right _ (show _ ∈ tables_1_1 ++ (tables_1_2 ++ (tables_1_3 ++ tables_1_4)) from (List.mem_append_right _ (List.mem_append_left _ (List.mem_of_getElem? (i := 111) rfl))))) rfl
def wo_Arr_copyOf (k : gK) (h1 : Nat) (n : Nat) (f : Nat → Int32) (x : Int32) (mm : Nat) (zz : Unit) (uu : Unit) (ra : Nat) : va_W := match zz, uu with
  | _, _ => [(h1, .inl (k.1, n, .inl f)), (ra, .inl (k.1, mm, .inl (va_cpy f (fun _ => 0) 0 0 n)))]
def ex_Arr_copyOf (k : gK) (h1 : Nat) (n : Nat) (f : Nat → Int32) (x : Int32) (mm : Nat) (zz : Unit) (uu : Unit) : Prop := match zz, uu with
  | _, _ => True
def po_Arr_copyOf (k : gK) (h1 : Nat) (n : Nat) (f : Nat → Int32) (x : Int32) (mm : Nat) (uu : Unit) : Prop := match uu with
  | _ => True
def qc_Arr_copyOf (D : va_G) (k : gK) (h1 : Nat) (n : Nat) (f : Nat → Int32) (x : Int32) (mm : Nat) (A : Nat → Prop) : Array Value → State → Outcome → State → Prop := va_Qr (po_Arr_copyOf k h1 n f x mm) (fun uu ra t => ∃ zz, ex_Arr_copyOf k h1 n f x mm zz uu ∧ GP D A (wo_Arr_copyOf k h1 n f x mm zz uu ra) t) A
set_option maxHeartbeats 1000000 in
set_option maxRecDepth 100000 in
theorem c_Arr_copyOf (l : Launch) (hl9 : l.stackTraces = false) (D : va_G) (k : gK) (h1 : Nat) (zsz : Nat) (n : Nat) (f : Nat → Int32) (x : Int32) (mm : Nat) (hxm : x = nI mm) (hnm : n < mm) (hmm : mm ≤ 65536) : Met l y_Arr_copyOf (.code y_Arr_copyOf b_Arr_copyOf 3 (some (.array .int)) :: AW) ({ frames := 1, cells := 1, slots := mm, locals := 60 }) (va_Pc [.ref h1, .int x] (GG D k [(h1, .inl (k.1, n, .inl f))] zsz)) (qc_Arr_copyOf D k h1 n f x mm (va_A [(h1, .inl (k.1, n, .inl f))] zsz)) 1 mm (va_A [(h1, .inl (k.1, n, .inl f))] zsz) := by
  refine kMet (ws := [(h1, .inl (k.1, n, .inl f))]) (Qc := qc_Arr_copyOf D k h1 n f x mm) (by decide) (Nat.le_of_ble_eq_true rfl) (fun p e s m below meth c ls A H Cc hP hD hA hS hl => ?_)
  obtain ⟨hx, hb, hml, hr, hlk, hown, hts, hK, hE, hin⟩ := Cc
  have hl : lv_has ls 3 [(0, .ref h1), (1, .int x)] := hl
  refine lv_iload_n hx hb d_Arr_copyOf_0 rfl (lv_at hl 1 rfl) ?_
  refine lv_aload_n hx hb d_Arr_copyOf_1 rfl (lv_at hl 0 rfl) ?_
  refine va_alen (v := nI n) hx hb hK hP 0 0 rfl rfl rfl d_Arr_copyOf_2 ?_
  refine lv_icmp_ne (tgt := 14) hx hb d_Arr_copyOf_3 (by decide) (fun c1 => ?_) (fun c1 => ?_)
  · refine lv_iload_n hx hb d_Arr_copyOf_14 rfl (lv_at hl 1 rfl) ?_
    refine va_newa (atype := .int) (ty := .int) (N' := mm) (a0 := (mm, .inl (fun _ => 0))) hx hb (hts (.arrayClass .int) mw_5) rfl hK hP hD hS hA (ha_int mm) (by rw [hxm]; exact nI_pos (by omega)) (by rw [hxm]; exact nI_clamp (by omega)) (by show mm * 4 ≤ 536870912; omega) (by first | omega | (dsimp only; omega)) (by first | omega | (dsimp only; omega)) d_Arr_copyOf_15 (fun q2 cA H hK1 hP hD hS => ?_)
    have ecA := newa_int hK1
    subst ecA
    have hP : va_P D vwCl [(h1, .inl (k.1, n, .inl f)), (q2, .inl (k.1, mm, .inl (fun _ => 0)))] H := hP
    have hD : va_D A [(h1, .inl (k.1, n, .inl f)), (q2, .inl (k.1, mm, .inl (fun _ => 0)))] := hD
    refine lv_astore_n (lv' := [(2, .ref q2), (0, .ref h1), (1, .int x)]) hx hb d_Arr_copyOf_17 rfl hl (by decide) rfl (fun ls hl => ?_)
    refine lv_aload_n hx hb d_Arr_copyOf_18 rfl (lv_at hl 1 rfl) ?_
    refine lv_iconst (v := 0) hx hb d_Arr_copyOf_19 (by decide) ?_
    refine lv_aload_n hx hb d_Arr_copyOf_20 rfl (lv_at hl 0 rfl) ?_
    refine lv_iconst (v := 0) hx hb d_Arr_copyOf_21 (by decide) ?_
    refine lv_aload_n hx hb d_Arr_copyOf_22 rfl (lv_at hl 1 rfl) ?_
    refine va_alen (v := nI n) hx hb hK hP 0 0 rfl rfl rfl d_Arr_copyOf_23 ?_
    refine lv_iload_n hx hb d_Arr_copyOf_24 rfl (lv_at hl 2 rfl) ?_
    refine va_mmin hx hb (hml.trans hl.1.symm) hown (hts (.methodLink R_Arr 304 Lib.Math.min.name) mw_6) (hts (.static Lib.Math.min.name) mw_7) (hts (.initialized "java/lang/Math") mw_8) (hts (.code Lib.Math.min.name Lib.Math.min.code 2 (some .int)) mw_9) (Nat.le_of_ble_eq_true rfl) (Nat.le_of_ble_eq_true rfl) (by first | omega | (dsimp only; omega)) (by first | omega | (dsimp only; omega)) d_Arr_copyOf_25 ?_
    rw [show (if x < (nI n) then x else (nI n)) = nI n from (by rw [hxm]; exact if_neg (nI_nlt (by omega) (by omega)))]
    refine va_copyi hx hb (hml.trans hl.1.symm) hown (hts (.methodLink R_Arr 150 arraycopyName) mw_10) (hts (.native arraycopyName) mw_11) (hts (.static arraycopyName) mw_12) (hts (.initialized "java/lang/System") mw_13) hK hP hD hS 0 1 0 0 rfl rfl rfl rfl rfl (by decide) (by decide) (nI_pos (by omega)) (by rw [nI_clamp (n := n) (by omega)]; simp) (by rw [nI_clamp (n := n) (by omega)]; simp; omega) (fun _ _ => rfl) (Nat.le_of_ble_eq_true rfl) (Nat.le_of_ble_eq_true rfl) d_Arr_copyOf_28 (fun H locs hP hD hS => ?_)
    rw [show (0 : Int32).toNatClampNeg = 0 from rfl, nI_clamp (n := n) (by omega)] at hP hD
    have hP : va_P D vwCl [(h1, .inl (k.1, n, .inl f)), (q2, .inl (k.1, mm, .inl (va_cpy f (fun _ => 0) 0 0 n)))] H := hP
    have hD : va_D A [(h1, .inl (k.1, n, .inl f)), (q2, .inl (k.1, mm, .inl (va_cpy f (fun _ => 0) 0 0 n)))] := hD
    refine lv_aload_n hx hb d_Arr_copyOf_31 rfl (lv_at hl 0 rfl) ?_
    exact kra (wo := wo_Arr_copyOf k h1 n f x mm) hx hb hr (Or.inr ⟨_, rfl⟩) hlk hP hD hS () () trivial trivial [0, 1] rfl (by decide) (by first | omega | (dsimp only; omega)) (by first | omega | (dsimp only; omega)) d_Arr_copyOf_32
  · exact absurd c1 (by rw [hxm]; exact fun q => absurd ((nI_eq (by omega) (by omega)).mp q) (by omega))

def wo_Row_append (k : gK) (h0 h1 : Nat) (n : Nat) (f : Nat → Int32) (u : Int32) (L : List Int32) (b : Int32) (zz : Nat × (Nat → Int32) × Int32) (uu : Nat × List Int32) : va_W := match zz, uu with
  | (q2, f2, u2), (n2, L2) => [(h0, .inr (0, [.ref q2, .int u2])), (q2, .inl (k.1, n2, .inl f2))]
def ex_Row_append (k : gK) (h0 h1 : Nat) (n : Nat) (f : Nat → Int32) (u : Int32) (L : List Int32) (b : Int32) (zz : Nat × (Nat → Int32) × Int32) (uu : Nat × List Int32) : Prop := match zz, uu with
  | (q2, f2, u2), (n2, L2) => row_ok n2 f2 u2 L2
def po_Row_append (k : gK) (h0 h1 : Nat) (n : Nat) (f : Nat → Int32) (u : Int32) (L : List Int32) (b : Int32) (uu : Nat × List Int32) : Prop := match uu with
  | (n2, L2) => n2 = apn n L ∧ L2 = app L b
def qc_Row_append (D : va_G) (k : gK) (h0 h1 : Nat) (n : Nat) (f : Nat → Int32) (u : Int32) (L : List Int32) (b : Int32) (A : Nat → Prop) : Array Value → State → Outcome → State → Prop := va_Qv (po_Row_append k h0 h1 n f u L b) (fun uu t => ∃ zz, ex_Row_append k h0 h1 n f u L b zz uu ∧ GP D A (wo_Row_append k h0 h1 n f u L b zz uu) t) A
set_option maxHeartbeats 1000000 in
set_option maxRecDepth 100000 in
theorem c_Row_append (l : Launch) (hl9 : l.stackTraces = false) (D : va_G) (k : gK) (h0 h1 : Nat) (zsz : Nat) (n : Nat) (f : Nat → Int32) (u : Int32) (L : List Int32) (b : Int32) (hR : row_ok n f u L) : Met l y_Row_append (.code y_Row_append b_Row_append 2 none :: AW) ({ frames := 2, cells := apn n L - n, slots := 2 * (apn n L - n), locals := 82 }) (va_Pc [.ref h0, .int b] (GG D k [(h0, .inr (0, [.ref h1, .int u])), (h1, .inl (k.1, n, .inl f))] zsz)) (qc_Row_append D k h0 h1 n f u L b (va_A [(h0, .inr (0, [.ref h1, .int u])), (h1, .inl (k.1, n, .inl f))] zsz)) (apn n L - n) (2 * (apn n L - n)) (va_A [(h0, .inr (0, [.ref h1, .int u])), (h1, .inl (k.1, n, .inl f))] zsz) := by
  refine kMet (ws := [(h0, .inr (0, [.ref h1, .int u])), (h1, .inl (k.1, n, .inl f))]) (Qc := qc_Row_append D k h0 h1 n f u L b) (by decide) (Nat.le_of_ble_eq_true rfl) (fun p e s m below meth c ls A H Cc hP hD hA hS hl => ?_)
  obtain ⟨hx, hb, hml, hr, hlk, hown, hts, hK, hE, hin⟩ := Cc
  have hl : lv_has ls 2 [(0, .ref h0), (1, .int b)] := hl
  refine lv_aload_n hx hb d_Row_append_0 rfl (lv_at hl 0 rfl) ?_
  refine va_get (D := D) (ci := 0) (v := .int u) (C := R_Row) (T := T_Row) (N := 2) hx hb hts inw_Row hown hK hP 0 rfl rfl 1 (by decide) (hts (.fieldLink R_Row 15 "LikelyBits$Row" "used" "I") mw_0) (fun _ h9 => h9) rfl d_Row_append_1 ?_
  refine lv_aload_n hx hb d_Row_append_4 rfl (lv_at hl 0 rfl) ?_
  refine va_get (D := D) (ci := 0) (v := .ref h1) (C := R_Row) (T := T_Row) (N := 2) hx hb hts inw_Row hown hK hP 0 rfl rfl 0 (by decide) (hts (.fieldLink R_Row 11 "LikelyBits$Row" "cells" "[I") mw_1) (fun _ h9 => h9) rfl d_Row_append_5 ?_
  refine va_alen (v := nI n) hx hb hK hP 1 0 rfl rfl rfl d_Row_append_8 ?_
  refine lv_icmp_lt (tgt := 45) hx hb d_Row_append_9 (by decide) (fun c1 => ?_) (fun c1 => ?_)
  · refine lv_aload_n hx hb d_Row_append_45 rfl (lv_at hl 0 rfl) ?_
    refine va_get (D := D) (ci := 0) (v := .int u) (C := R_Row) (T := T_Row) (N := 2) hx hb hts inw_Row hown hK hP 0 rfl rfl 1 (by decide) (hts (.fieldLink R_Row 15 "LikelyBits$Row" "used" "I") mw_0) (fun _ h9 => h9) rfl d_Row_append_46 ?_
    refine lv_if_lt (tgt := 84) hx hb d_Row_append_49 (by decide) (fun c2 => ?_) (fun c2 => ?_)
    · exact absurd c2 (row_neg hR)
    · refine lv_aload_n hx hb d_Row_append_52 rfl (lv_at hl 0 rfl) ?_
      refine va_get (D := D) (ci := 0) (v := .int u) (C := R_Row) (T := T_Row) (N := 2) hx hb hts inw_Row hown hK hP 0 rfl rfl 1 (by decide) (hts (.fieldLink R_Row 15 "LikelyBits$Row" "used" "I") mw_0) (fun _ h9 => h9) rfl d_Row_append_53 ?_
      refine lv_aload_n hx hb d_Row_append_56 rfl (lv_at hl 0 rfl) ?_
      refine va_get (D := D) (ci := 0) (v := .ref h1) (C := R_Row) (T := T_Row) (N := 2) hx hb hts inw_Row hown hK hP 0 rfl rfl 0 (by decide) (hts (.fieldLink R_Row 11 "LikelyBits$Row" "cells" "[I") mw_1) (fun _ h9 => h9) rfl d_Row_append_57 ?_
      refine va_alen (v := nI n) hx hb hK hP 1 0 rfl rfl rfl d_Row_append_60 ?_
      refine lv_icmp_ge (tgt := 84) hx hb d_Row_append_61 (by decide) (fun c3 => ?_) (fun c3 => ?_)
      · exact (lt_le32 c1 c3).elim
      · refine lv_aload_n hx hb d_Row_append_64 rfl (lv_at hl 0 rfl) ?_
        refine va_get (D := D) (ci := 0) (v := .ref h1) (C := R_Row) (T := T_Row) (N := 2) hx hb hts inw_Row hown hK hP 0 rfl rfl 0 (by decide) (hts (.fieldLink R_Row 11 "LikelyBits$Row" "cells" "[I") mw_1) (fun _ h9 => h9) rfl d_Row_append_65 ?_
        refine lv_aload_n hx hb d_Row_append_68 rfl (lv_at hl 0 rfl) ?_
        refine va_get (D := D) (ci := 0) (v := .int u) (C := R_Row) (T := T_Row) (N := 2) hx hb hts inw_Row hown hK hP 0 rfl rfl 1 (by decide) (hts (.fieldLink R_Row 15 "LikelyBits$Row" "used" "I") mw_0) (fun _ h9 => h9) rfl d_Row_append_69 ?_
        refine lv_iload_n hx hb d_Row_append_72 rfl (lv_at hl 1 rfl) ?_
        refine va_iast hx hb hK hP hD hS 1 0 rfl rfl (ix_in (by have := row_le hR; omega) (row_neg hR) c3) d_Row_append_73 (fun H locs hP hD hS => ?_)
        have hP : va_P D vwCl [(h0, .inr (0, [.ref h1, .int u])), (h1, .inl (k.1, n, .inl (upd f u.toNatClampNeg b)))] H := hP
        have hD : va_D A [(h0, .inr (0, [.ref h1, .int u])), (h1, .inl (k.1, n, .inl (upd f u.toNatClampNeg b)))] := hD
        refine lv_aload_n hx hb d_Row_append_74 rfl (lv_at hl 0 rfl) ?_
        refine lv_dup hx hb d_Row_append_75 rfl ?_
        refine va_get (D := D) (ci := 0) (v := .int u) (C := R_Row) (T := T_Row) (N := 2) hx hb hts inw_Row hown hK hP 0 rfl rfl 1 (by decide) (hts (.fieldLink R_Row 15 "LikelyBits$Row" "used" "I") mw_0) (fun _ h9 => h9) rfl d_Row_append_76 ?_
        refine lv_iconst (v := 1) hx hb d_Row_append_79 (by decide) ?_
        refine lv_iadd hx hb d_Row_append_80 ?_
        refine lv_topi (fun x4 ex4 => ?_)
        refine va_put (D := D) (ci := 0) (v := .int x4) (ty := .int) (C := R_Row) (T := T_Row) (N := 2) hx hb hts inw_Row ty_Row tyok_Row nm_Row hown hK hP hD hS 0 rfl rfl 1 (by decide) (hts (.fieldLink R_Row 15 "LikelyBits$Row" "used" "I") mw_0) (fun _ h9 => h9) rfl (by decide +kernel) rfl rfl (Nat.le_of_ble_eq_true rfl) d_Row_append_81 (fun H locs hP hD hS => ?_)
        have hP : va_P D vwCl [(h0, .inr (0, [.ref h1, .int x4])), (h1, .inl (k.1, n, .inl (upd f u.toNatClampNeg b)))] H := hP
        have hD : va_D A [(h0, .inr (0, [.ref h1, .int x4])), (h1, .inl (k.1, n, .inl (upd f u.toNatClampNeg b)))] := hD
        exact krv (wo := wo_Row_append k h0 h1 n f u L b) hx hb hr hlk hP hD hS (n, app L b) (h1, upd f u.toNatClampNeg b, x4) ⟨apn_lt hR c1, rfl⟩ (by rw [ex4]; exact app_ok hR c3) [0, 1] rfl (by decide) (by first | omega | (dsimp only; omega)) (by first | omega | (dsimp only; omega)) d_Row_append_84
  · refine lv_aload_n hx hb d_Row_append_12 rfl (lv_at hl 0 rfl) ?_
    refine va_get (D := D) (ci := 0) (v := .ref h1) (C := R_Row) (T := T_Row) (N := 2) hx hb hts inw_Row hown hK hP 0 rfl rfl 0 (by decide) (hts (.fieldLink R_Row 11 "LikelyBits$Row" "cells" "[I") mw_1) (fun _ h9 => h9) rfl d_Row_append_13 ?_
    refine va_alen (v := nI n) hx hb hK hP 1 0 rfl rfl rfl d_Row_append_16 ?_
    refine lv_ldc (v := 65536) hx hb hown (hts (.constant R_Row 19 65536) mw_14) d_Row_append_17 ?_
    refine lv_icmp_ge (tgt := 45) hx hb d_Row_append_19 (by decide) (fun c5 => ?_) (fun c5 => ?_)
    · refine lv_aload_n hx hb d_Row_append_45 rfl (lv_at hl 0 rfl) ?_
      refine va_get (D := D) (ci := 0) (v := .int u) (C := R_Row) (T := T_Row) (N := 2) hx hb hts inw_Row hown hK hP 0 rfl rfl 1 (by decide) (hts (.fieldLink R_Row 15 "LikelyBits$Row" "used" "I") mw_0) (fun _ h9 => h9) rfl d_Row_append_46 ?_
      refine lv_if_lt (tgt := 84) hx hb d_Row_append_49 (by decide) (fun c6 => ?_) (fun c6 => ?_)
      · exact absurd c6 (row_neg hR)
      · refine lv_aload_n hx hb d_Row_append_52 rfl (lv_at hl 0 rfl) ?_
        refine va_get (D := D) (ci := 0) (v := .int u) (C := R_Row) (T := T_Row) (N := 2) hx hb hts inw_Row hown hK hP 0 rfl rfl 1 (by decide) (hts (.fieldLink R_Row 15 "LikelyBits$Row" "used" "I") mw_0) (fun _ h9 => h9) rfl d_Row_append_53 ?_
        refine lv_aload_n hx hb d_Row_append_56 rfl (lv_at hl 0 rfl) ?_
        refine va_get (D := D) (ci := 0) (v := .ref h1) (C := R_Row) (T := T_Row) (N := 2) hx hb hts inw_Row hown hK hP 0 rfl rfl 0 (by decide) (hts (.fieldLink R_Row 11 "LikelyBits$Row" "cells" "[I") mw_1) (fun _ h9 => h9) rfl d_Row_append_57 ?_
        refine va_alen (v := nI n) hx hb hK hP 1 0 rfl rfl rfl d_Row_append_60 ?_
        refine lv_icmp_ge (tgt := 84) hx hb d_Row_append_61 (by decide) (fun c7 => ?_) (fun c7 => ?_)
        · exact krv (wo := wo_Row_append k h0 h1 n f u L b) hx hb hr hlk hP hD hS (n, L) (h1, f, u) ⟨apn_full hR c1 c5, app_full hR c1 c5⟩ hR [0, 1] rfl (by decide) (by first | omega | (dsimp only; omega)) (by first | omega | (dsimp only; omega)) d_Row_append_84
        · exact (c7 (Int32.not_lt.mp c1)).elim
    · refine lv_aload_n hx hb d_Row_append_22 rfl (lv_at hl 0 rfl) ?_
      refine lv_aload_n hx hb d_Row_append_23 rfl (lv_at hl 0 rfl) ?_
      refine va_get (D := D) (ci := 0) (v := .ref h1) (C := R_Row) (T := T_Row) (N := 2) hx hb hts inw_Row hown hK hP 0 rfl rfl 0 (by decide) (hts (.fieldLink R_Row 11 "LikelyBits$Row" "cells" "[I") mw_1) (fun _ h9 => h9) rfl d_Row_append_24 ?_
      refine lv_ldc (v := 65536) hx hb hown (hts (.constant R_Row 19 65536) mw_14) d_Row_append_27 ?_
      refine lv_iconst (v := 2) hx hb d_Row_append_29 (by decide) ?_
      refine lv_aload_n hx hb d_Row_append_30 rfl (lv_at hl 0 rfl) ?_
      refine va_get (D := D) (ci := 0) (v := .ref h1) (C := R_Row) (T := T_Row) (N := 2) hx hb hts inw_Row hown hK hP 0 rfl rfl 0 (by decide) (hts (.fieldLink R_Row 11 "LikelyBits$Row" "cells" "[I") mw_1) (fun _ h9 => h9) rfl d_Row_append_31 ?_
      refine va_alen (v := nI n) hx hb hK hP 1 0 rfl rfl rfl d_Row_append_34 ?_
      refine lv_imul hx hb d_Row_append_35 ?_
      have eg := apn_grow hR c1 c5
      have h256 := hR.2.2.1
      refine va_mmin hx hb (hml.trans hl.1.symm) hown (hts (.methodLink R_Row 20 Lib.Math.min.name) mw_15) (hts (.static Lib.Math.min.name) mw_7) (hts (.initialized "java/lang/Math") mw_8) (hts (.code Lib.Math.min.name Lib.Math.min.code 2 (some .int)) mw_9) (Nat.le_of_ble_eq_true rfl) (Nat.le_of_ble_eq_true rfl) (by first | omega | (dsimp only; omega)) (by first | omega | (dsimp only; omega)) d_Row_append_36 ?_
      rw [show (if (2 * (nI n)) < 65536 then (2 * (nI n)) else 65536) = nI (2 * n) from (min_grow (by omega))]
      refine kca (wc := [(h1, .inl (k.1, n, .inl f))]) (wr := [(h0, .inr (0, [.ref h1, .int u]))]) (va_runS (As := [.ref h1, .int (nI (2 * n))]) (rest := [.ref h0]) ⟨hx, hb, hml, hown, hts⟩ (c_Arr_copyOf l hl9 D k h1 H.size n f (nI (2 * n)) (2 * n) rfl (by omega) (by omega)) ⟨callB_of 2 hts (gI mw_16) rfl rfl rfl (hts (.initialized R_Arr) mw_17) (hts (.methodLink R_Row 26 y_Arr_copyOf) mw_18) (by decide +kernel) ⟨(Nat.le_of_ble_eq_true rfl), (Nat.le_of_ble_eq_true rfl)⟩, (hts (.static y_Arr_copyOf) mw_19)⟩ (kPre (wc := [(h1, .inl (k.1, n, .inl f))]) hE hK hP hD hS hA [1] rfl (by decide)) rfl rfl hl.1 rfl (lv_room (Nat.le_of_ble_eq_true rfl)) d_Row_append_39 ⟨(by first | omega | (dsimp only; omega)), (by first | omega | (dsimp only; omega))⟩) hP hD hS hA [1] [0] rfl rfl (by decide) (by decide) (fun r8 zz uu H locs hw9 hz10 hP hD hS => ?_)
      have hw9 : True := hw9
      have hP : va_P D vwCl [(h0, .inr (0, [.ref h1, .int u])), (h1, .inl (k.1, n, .inl f)), (r8, .inl (k.1, (2 * n), .inl (va_cpy f (fun _ => 0) 0 0 n)))] H := hP
      have hD : va_D A [(h0, .inr (0, [.ref h1, .int u])), (h1, .inl (k.1, n, .inl f)), (r8, .inl (k.1, (2 * n), .inl (va_cpy f (fun _ => 0) 0 0 n)))] := hD
      have hR2 := row_wide hR (Int32.not_lt.mp c1) eg.2.1
      refine va_put (D := D) (ci := 0) (v := .ref r8) (ty := .array .int) (C := R_Row) (T := T_Row) (N := 2) hx hb hts inw_Row ty_Row tyok_Row nm_Row hown hK hP hD hS 0 rfl rfl 0 (by decide) (hts (.fieldLink R_Row 11 "LikelyBits$Row" "cells" "[I") mw_1) (fun _ h9 => h9) rfl (by decide +kernel) rfl rfl (Nat.le_of_ble_eq_true rfl) d_Row_append_42 (fun H locs hP hD hS => ?_)
      have hP : va_P D vwCl [(h0, .inr (0, [.ref r8, .int u])), (h1, .inl (k.1, n, .inl f)), (r8, .inl (k.1, (2 * n), .inl (va_cpy f (fun _ => 0) 0 0 n)))] H := hP
      have hD : va_D A [(h0, .inr (0, [.ref r8, .int u])), (h1, .inl (k.1, n, .inl f)), (r8, .inl (k.1, (2 * n), .inl (va_cpy f (fun _ => 0) 0 0 n)))] := hD
      refine lv_aload_n hx hb d_Row_append_45 rfl (lv_at hl 0 rfl) ?_
      refine va_get (D := D) (ci := 0) (v := .int u) (C := R_Row) (T := T_Row) (N := 2) hx hb hts inw_Row hown hK hP 0 rfl rfl 1 (by decide) (hts (.fieldLink R_Row 15 "LikelyBits$Row" "used" "I") mw_0) (fun _ h9 => h9) rfl d_Row_append_46 ?_
      refine lv_if_lt (tgt := 84) hx hb d_Row_append_49 (by decide) (fun c11 => ?_) (fun c11 => ?_)
      · exact absurd c11 (row_neg hR)
      · refine lv_aload_n hx hb d_Row_append_52 rfl (lv_at hl 0 rfl) ?_
        refine va_get (D := D) (ci := 0) (v := .int u) (C := R_Row) (T := T_Row) (N := 2) hx hb hts inw_Row hown hK hP 0 rfl rfl 1 (by decide) (hts (.fieldLink R_Row 15 "LikelyBits$Row" "used" "I") mw_0) (fun _ h9 => h9) rfl d_Row_append_53 ?_
        refine lv_aload_n hx hb d_Row_append_56 rfl (lv_at hl 0 rfl) ?_
        refine va_get (D := D) (ci := 0) (v := .ref r8) (C := R_Row) (T := T_Row) (N := 2) hx hb hts inw_Row hown hK hP 0 rfl rfl 0 (by decide) (hts (.fieldLink R_Row 11 "LikelyBits$Row" "cells" "[I") mw_1) (fun _ h9 => h9) rfl d_Row_append_57 ?_
        refine va_alen (v := nI (2 * n)) hx hb hK hP 2 0 rfl rfl rfl d_Row_append_60 ?_
        refine lv_icmp_ge (tgt := 84) hx hb d_Row_append_61 (by decide) (fun c12 => ?_) (fun c12 => ?_)
        · exact (wide_in hR eg.2.1 c12).elim
        · refine lv_aload_n hx hb d_Row_append_64 rfl (lv_at hl 0 rfl) ?_
          refine va_get (D := D) (ci := 0) (v := .ref r8) (C := R_Row) (T := T_Row) (N := 2) hx hb hts inw_Row hown hK hP 0 rfl rfl 0 (by decide) (hts (.fieldLink R_Row 11 "LikelyBits$Row" "cells" "[I") mw_1) (fun _ h9 => h9) rfl d_Row_append_65 ?_
          refine lv_aload_n hx hb d_Row_append_68 rfl (lv_at hl 0 rfl) ?_
          refine va_get (D := D) (ci := 0) (v := .int u) (C := R_Row) (T := T_Row) (N := 2) hx hb hts inw_Row hown hK hP 0 rfl rfl 1 (by decide) (hts (.fieldLink R_Row 15 "LikelyBits$Row" "used" "I") mw_0) (fun _ h9 => h9) rfl d_Row_append_69 ?_
          refine lv_iload_n hx hb d_Row_append_72 rfl (lv_at hl 1 rfl) ?_
          refine va_iast hx hb hK hP hD hS 2 0 rfl rfl (ix_in (by have := row_le hR; omega) (row_neg hR) c12) d_Row_append_73 (fun H locs hP hD hS => ?_)
          have hP : va_P D vwCl [(h0, .inr (0, [.ref r8, .int u])), (h1, .inl (k.1, n, .inl f)), (r8, .inl (k.1, (2 * n), .inl (upd (va_cpy f (fun _ => 0) 0 0 n) u.toNatClampNeg b)))] H := hP
          have hD : va_D A [(h0, .inr (0, [.ref r8, .int u])), (h1, .inl (k.1, n, .inl f)), (r8, .inl (k.1, (2 * n), .inl (upd (va_cpy f (fun _ => 0) 0 0 n) u.toNatClampNeg b)))] := hD
          refine lv_aload_n hx hb d_Row_append_74 rfl (lv_at hl 0 rfl) ?_
          refine lv_dup hx hb d_Row_append_75 rfl ?_
          refine va_get (D := D) (ci := 0) (v := .int u) (C := R_Row) (T := T_Row) (N := 2) hx hb hts inw_Row hown hK hP 0 rfl rfl 1 (by decide) (hts (.fieldLink R_Row 15 "LikelyBits$Row" "used" "I") mw_0) (fun _ h9 => h9) rfl d_Row_append_76 ?_
          refine lv_iconst (v := 1) hx hb d_Row_append_79 (by decide) ?_
          refine lv_iadd hx hb d_Row_append_80 ?_
          refine lv_topi (fun x13 ex13 => ?_)
          refine va_put (D := D) (ci := 0) (v := .int x13) (ty := .int) (C := R_Row) (T := T_Row) (N := 2) hx hb hts inw_Row ty_Row tyok_Row nm_Row hown hK hP hD hS 0 rfl rfl 1 (by decide) (hts (.fieldLink R_Row 15 "LikelyBits$Row" "used" "I") mw_0) (fun _ h9 => h9) rfl (by decide +kernel) rfl rfl (Nat.le_of_ble_eq_true rfl) d_Row_append_81 (fun H locs hP hD hS => ?_)
          have hP : va_P D vwCl [(h0, .inr (0, [.ref r8, .int x13])), (h1, .inl (k.1, n, .inl f)), (r8, .inl (k.1, (2 * n), .inl (upd (va_cpy f (fun _ => 0) 0 0 n) u.toNatClampNeg b)))] H := hP
          have hD : va_D A [(h0, .inr (0, [.ref r8, .int x13])), (h1, .inl (k.1, n, .inl f)), (r8, .inl (k.1, (2 * n), .inl (upd (va_cpy f (fun _ => 0) 0 0 n) u.toNatClampNeg b)))] := hD
          exact krv (wo := wo_Row_append k h0 h1 n f u L b) hx hb hr hlk hP hD hS ((2 * n), app L b) (r8, upd (va_cpy f (fun _ => 0) 0 0 n) u.toNatClampNeg b, x13) ⟨eg.1, rfl⟩ (by rw [ex13]; exact app_ok hR2 c12) [0, 2] rfl (by decide) (by first | omega | (dsimp only; omega)) (by first | omega | (dsimp only; omega)) d_Row_append_84
end
section
/-! what the class's methods compute, as its code says it -/
def ent (n : Nat) (f : Nat → Int32) (x : Int32) : Int32 := if x < 0 then 0 else if nI n ≤ x then 0 else f x.toNatClampNeg
theorem nI_19 : nI 19 = 19 := rfl
theorem nI_47 : nI 47 = 47 := rfl
def tfP : Nat → Int32 := fun j => tabP.getD j 0
def tfN : Nat → Int32 := fun j => tabN.getD j 0
def tfO : Nat → Int32 := fun j => tabO.getD j 0
def prt (sf : Nat → Int32) (x : Int32) : Int32 := ent 47 tfP (ent 19 sf x)
def trn (x : Int32) : Int32 := if x = 0 then 1 else if x = 6 then 1 else if x = 14 then 1 else 0
theorem trn_01 (x : Int32) : trn x = 0 ∨ trn x = 1 := by
  unfold trn
  split
  · exact Or.inr rfl
  · split
    · exact Or.inr rfl
    · split
      · exact Or.inr rfl
      · exact Or.inl rfl
def cset (sf lf : Nat → Int32) (x y z : Int32) : (Nat → Int32) × (Nat → Int32) := if x < 0 then (sf, lf) else if (19 : Int32) ≤ x then (sf, lf) else (upd sf x.toNatClampNeg y, upd lf x.toNatClampNeg z)
def cLk (sf lf : Nat → Int32) (x : Int32) : (Nat → Int32) × (Nat → Int32) := cset sf lf x (ent 47 tfN (ent 19 sf x)) (ent 19 lf x)
def cOt (sf lf : Nat → Int32) (x : Int32) : (Nat → Int32) × (Nat → Int32) := cset sf lf x (ent 47 tfO (ent 19 sf x)) (if trn (ent 19 sf x) = 0 then ent 19 lf x else 1 - ent 19 lf x)
def sgl (L : List Int32) (a : Int32) : Int32 := if nI L.length - a ≤ 0 then -1 else rb L (nI L.length - 1)
def sgc (L : List Int32) (a b : Int32) : List Int32 := if nI L.length - a ≤ 0 then L else rs L (nI L.length - 1) b
def sgd (L : List Int32) (a : Int32) : List Int32 := if sgl L a = 255 then L.dropLast else L
end
section
set_option maxRecDepth 20000 in
theorem mw_20 : (Cond.fieldLink R_Cxt 9 "LikelyBits$Contexts" "states" "[I") ∈ AW := inAW (List.mem_append_right _ (show _ ∈ tables_1_1 ++ (tables_1_2 ++ (tables_1_3 ++ tables_1_4)) from (List.mem_append_left _ (List.mem_of_getElem? (i := 49) rfl)))) rfl
set_option maxRecDepth 20000 in
theorem mw_21 : (Cond.methodLink R_Cxt 18 y_Cxt_entry) ∈ AW := inAW (List.mem_append_right _ (show _ ∈ tables_1_1 ++ (tables_1_2 ++ (tables_1_3 ++ tables_1_4)) from (List.mem_append_right _ (List.mem_append_left _ (List.mem_of_getElem? (i := 184) rfl))))) rfl
set_option maxRecDepth 20000 in
theorem mw_22 : (Cond.static y_Cxt_entry) ∈ AW := inAW (List.mem_append_right _ (show _ ∈ tables_1_1 ++ (tables_1_2 ++ (tables_1_3 ++ tables_1_4)) from (List.mem_append_right _ (List.mem_append_left _ (List.mem_of_getElem? (i := 185) rfl))))) rfl
set_option maxRecDepth 20000 in
theorem mw_23 : (Cond.initialized R_Cxt) ∈ AW := inAW (List.mem_append_right _ (show _ ∈ tables_1_1 ++ (tables_1_2 ++ (tables_1_3 ++ tables_1_4)) from (List.mem_append_left _ (List.mem_of_getElem? (i := 3) rfl)))) rfl
set_option maxRecDepth 20000 in
theorem mw_24 : (Cond.code y_Cxt_entry b_Cxt_entry 2 (some .int)) ∈ AW := inAW (List.mem_append_right _ (show _ ∈ tables_1_1 ++ (tables_1_2 ++ (tables_1_3 ++ tables_1_4)) from (List.mem_append_right _ (List.mem_append_left _ (List.mem_of_getElem? (i := 186) rfl))))) rfl
set_option maxRecDepth 20000 in
theorem mw_25 : (Cond.fieldLink R_Cxt 15 "LikelyBits$Contexts" "likelyBits" "[I") ∈ AW := inAW (List.mem_append_right _ (show _ ∈ tables_1_1 ++ (tables_1_2 ++ (tables_1_3 ++ tables_1_4)) from (List.mem_append_left _ (List.mem_of_getElem? (i := 50) rfl)))) rfl
set_option maxRecDepth 20000 in
theorem mw_26 : (Cond.methodLink R_Cxt 25 y_Cxt_stateOf) ∈ AW := inAW (List.mem_append_right _ (show _ ∈ tables_1_1 ++ (tables_1_2 ++ (tables_1_3 ++ tables_1_4)) from (List.mem_append_right _ (List.mem_append_right _ (List.mem_append_left _ (List.mem_of_getElem? (i := 23) rfl)))))) rfl
set_option maxRecDepth 20000 in
theorem mw_27 : (Cond.instanceMethod y_Cxt_stateOf) ∈ AW := inAW (List.mem_append_right _ (show _ ∈ tables_1_1 ++ (tables_1_2 ++ (tables_1_3 ++ tables_1_4)) from (List.mem_append_right _ (List.mem_append_left _ (List.mem_of_getElem? (i := 181) rfl))))) rfl
set_option maxRecDepth 20000 in
theorem mw_28 : (Cond.selects R_Cxt y_Cxt_stateOf y_Cxt_stateOf) ∈ AW := inAW (List.mem_append_right _ (show _ ∈ tables_1_1 ++ (tables_1_2 ++ (tables_1_3 ++ tables_1_4)) from (List.mem_append_right _ (List.mem_append_left _ (List.mem_of_getElem? (i := 182) rfl))))) rfl
set_option maxRecDepth 20000 in
theorem mw_29 : (Cond.code y_Cxt_stateOf b_Cxt_stateOf 2 (some .int)) ∈ AW := inAW (List.mem_append_right _ (show _ ∈ tables_1_1 ++ (tables_1_2 ++ (tables_1_3 ++ tables_1_4)) from (List.mem_append_right _ (List.mem_append_left _ (List.mem_of_getElem? (i := 183) rfl))))) rfl
set_option maxRecDepth 20000 in
theorem mw_30 : (Cond.methodLink R_Cxt 32 y_Cxt_likelyBitOf) ∈ AW := inAW (List.mem_append_right _ (show _ ∈ tables_1_1 ++ (tables_1_2 ++ (tables_1_3 ++ tables_1_4)) from (List.mem_append_right _ (List.mem_append_right _ (List.mem_append_left _ (List.mem_of_getElem? (i := 35) rfl)))))) rfl
set_option maxRecDepth 20000 in
theorem mw_31 : (Cond.instanceMethod y_Cxt_likelyBitOf) ∈ AW := inAW (List.mem_append_right _ (show _ ∈ tables_1_1 ++ (tables_1_2 ++ (tables_1_3 ++ tables_1_4)) from (List.mem_append_right _ (List.mem_append_left _ (List.mem_of_getElem? (i := 188) rfl))))) rfl
set_option maxRecDepth 20000 in
theorem mw_32 : (Cond.selects R_Cxt y_Cxt_likelyBitOf y_Cxt_likelyBitOf) ∈ AW := inAW (List.mem_append_right _ (show _ ∈ tables_1_1 ++ (tables_1_2 ++ (tables_1_3 ++ tables_1_4)) from (List.mem_append_right _ (List.mem_append_left _ (List.mem_of_getElem? (i := 189) rfl))))) rfl
set_option maxRecDepth 20000 in
theorem mw_33 : (Cond.code y_Cxt_likelyBitOf b_Cxt_likelyBitOf 2 (some .int)) ∈ AW := inAW (List.mem_append_right _ (show _ ∈ tables_1_1 ++ (tables_1_2 ++ (tables_1_3 ++ tables_1_4)) from (List.mem_append_right _ (List.mem_append_left _ (List.mem_of_getElem? (i := 190) rfl))))) rfl
set_option maxRecDepth 20000 in
theorem mw_34 : (Cond.methodLink R_Cxt 35 y_Cxt_set) ∈ AW := inAW (List.mem_append_right _ (show _ ∈ tables_1_1 ++ (tables_1_2 ++ (tables_1_3 ++ tables_1_4)) from (List.mem_append_right _ (List.mem_append_right _ (List.mem_append_left _ (List.mem_of_getElem? (i := 36) rfl)))))) rfl
set_option maxRecDepth 20000 in
theorem mw_35 : (Cond.instanceMethod y_Cxt_set) ∈ AW := inAW (List.mem_append_right _ (show _ ∈ tables_1_1 ++ (tables_1_2 ++ (tables_1_3 ++ tables_1_4)) from (List.mem_append_right _ (List.mem_append_left _ (List.mem_of_getElem? (i := 170) rfl))))) rfl
set_option maxRecDepth 20000 in
theorem mw_36 : (Cond.selects R_Cxt y_Cxt_set y_Cxt_set) ∈ AW := inAW (List.mem_append_right _ (show _ ∈ tables_1_1 ++ (tables_1_2 ++ (tables_1_3 ++ tables_1_4)) from (List.mem_append_right _ (List.mem_append_left _ (List.mem_of_getElem? (i := 171) rfl))))) rfl
set_option maxRecDepth 20000 in
theorem mw_37 : (Cond.code y_Cxt_set b_Cxt_set 4 none) ∈ AW := inAW (List.mem_append_right _ (show _ ∈ tables_1_1 ++ (tables_1_2 ++ (tables_1_3 ++ tables_1_4)) from (List.mem_append_right _ (List.mem_append_left _ (List.mem_of_getElem? (i := 172) rfl))))) rfl
set_option maxRecDepth 20000 in
theorem mw_38 : (Cond.methodLink R_Cxt 39 y_Cxt_turns) ∈ AW := inAW (List.mem_append_right _ (show _ ∈ tables_1_1 ++ (tables_1_2 ++ (tables_1_3 ++ tables_1_4)) from (List.mem_append_right _ (List.mem_append_right _ (List.mem_append_left _ (List.mem_of_getElem? (i := 45) rfl)))))) rfl
set_option maxRecDepth 20000 in
theorem mw_39 : (Cond.static y_Cxt_turns) ∈ AW := inAW (List.mem_append_right _ (show _ ∈ tables_1_1 ++ (tables_1_2 ++ (tables_1_3 ++ tables_1_4)) from (List.mem_append_right _ (List.mem_append_right _ (List.mem_append_left _ (List.mem_of_getElem? (i := 46) rfl)))))) rfl
set_option maxRecDepth 20000 in
theorem mw_40 : (Cond.code y_Cxt_turns b_Cxt_turns 1 (some .boolean)) ∈ AW := inAW (List.mem_append_right _ (show _ ∈ tables_1_1 ++ (tables_1_2 ++ (tables_1_3 ++ tables_1_4)) from (List.mem_append_right _ (List.mem_append_right _ (List.mem_append_left _ (List.mem_of_getElem? (i := 47) rfl)))))) rfl
set_option maxRecDepth 20000 in
theorem mw_41 : (Cond.methodLink R_Cxt 3 objectInit) ∈ AW := inAW (List.mem_append_right _ (show _ ∈ tables_1_1 ++ (tables_1_2 ++ (tables_1_3 ++ tables_1_4)) from (List.mem_append_left _ (List.mem_of_getElem? (i := 48) rfl)))) rfl
set_option maxRecDepth 20000 in
theorem nw_0 : (Cond.fieldLinkNest R_Cxt 22 "LikelyBits" "PARTS" "[I" "LikelyBits") ∈ NW := inNW (List.mem_append_right _ (show _ ∈ tables_1_1 ++ (tables_1_2 ++ (tables_1_3 ++ tables_1_4)) from (List.mem_append_right _ (List.mem_append_right _ (List.mem_append_left _ (List.mem_of_getElem? (i := 21) rfl)))))) rfl
set_option maxRecDepth 20000 in
theorem nw_1 : (Cond.fieldLinkNest R_Cxt 29 "LikelyBits" "NEXT_STATES" "[I" "LikelyBits") ∈ NW := inNW (List.mem_append_right _ (show _ ∈ tables_1_1 ++ (tables_1_2 ++ (tables_1_3 ++ tables_1_4)) from (List.mem_append_right _ (List.mem_append_right _ (List.mem_append_left _ (List.mem_of_getElem? (i := 33) rfl)))))) rfl
set_option maxRecDepth 20000 in
theorem nw_2 : (Cond.fieldLinkNest R_Cxt 43 "LikelyBits" "OTHER_STATES" "[I" "LikelyBits") ∈ NW := inNW (List.mem_append_right _ (show _ ∈ tables_1_1 ++ (tables_1_2 ++ (tables_1_3 ++ tables_1_4)) from (List.mem_append_right _ (List.mem_append_right _ (List.mem_append_left _ (List.mem_of_getElem? (i := 48) rfl)))))) rfl
set_option maxHeartbeats 1000000 in
set_option maxRecDepth 100000 in
theorem c_Cxt_entry (l : Launch) (hl9 : l.stackTraces = false) (D : va_G) (k : gK) (h1 : Nat) (f : Nat → Int32) (x : Int32) : Met l y_Cxt_entry (.code y_Cxt_entry b_Cxt_entry 2 (some .int) :: AW) { frames := 0, cells := 0, slots := 0, locals := 0 } (va_Pc [.ref h1, .int x] (GR D k [(h1, .inl (k.1, 19, .inl f))])) (va_Qi (fun r (_ : Unit) => r = ent 19 f x) (fun _ _ => True) (fun _ => False)) 0 0 (fun _ => False) := by
  refine kMetR (ws := [(h1, .inl (k.1, 19, .inl f))]) (by decide) (Nat.le_of_ble_eq_true rfl) (fun p e s m below meth c ls H Cc hP hS hl => ?_)
  obtain ⟨hx, hb, hml, hr, hlk, hown, hts, hK, hE, hin⟩ := Cc
  have hl : lv_has ls 2 [(0, .ref h1), (1, .int x)] := hl
  refine lv_iload_n hx hb d_Cxt_entry_0 rfl (lv_at hl 1 rfl) ?_
  refine lv_if_lt (tgt := 16) hx hb d_Cxt_entry_1 (by decide) (fun c1 => ?_) (fun c1 => ?_)
  · refine lv_iconst (v := 0) hx hb d_Cxt_entry_16 (by decide) ?_
    exact koi hx hb hr hlk hS (by simp [ent, nI_19, c1]) (Nat.le_of_ble_eq_true rfl) (Nat.le_of_ble_eq_true rfl) d_Cxt_entry_17
  · refine lv_iload_n hx hb d_Cxt_entry_4 rfl (lv_at hl 1 rfl) ?_
    refine lv_aload_n hx hb d_Cxt_entry_5 rfl (lv_at hl 0 rfl) ?_
    refine va_alen (v := 19) hx hb hK hP 0 0 rfl rfl rfl d_Cxt_entry_6 ?_
    refine lv_icmp_ge (tgt := 16) hx hb d_Cxt_entry_7 (by decide) (fun c2 => ?_) (fun c2 => ?_)
    · refine lv_iconst (v := 0) hx hb d_Cxt_entry_16 (by decide) ?_
      exact koi hx hb hr hlk hS (by simp [ent, nI_19, c1, c2]) (Nat.le_of_ble_eq_true rfl) (Nat.le_of_ble_eq_true rfl) d_Cxt_entry_17
    · refine lv_aload_n hx hb d_Cxt_entry_10 rfl (lv_at hl 0 rfl) ?_
      refine lv_iload_n hx hb d_Cxt_entry_11 rfl (lv_at hl 1 rfl) ?_
      refine va_iald hx hb hK hP 0 0 rfl rfl (ix_in (by decide) c1 c2) d_Cxt_entry_12 ?_
      refine lv_goto (tgt := 17) hx hb d_Cxt_entry_13 (by decide) ?_
      exact koi hx hb hr hlk hS (by simp [ent, nI_19, c1, c2]) (Nat.le_of_ble_eq_true rfl) (Nat.le_of_ble_eq_true rfl) d_Cxt_entry_17

set_option maxHeartbeats 1000000 in
set_option maxRecDepth 100000 in
theorem c_Cxt_entryP (l : Launch) (hl9 : l.stackTraces = false) (D : va_G) (k : gK) (x : Int32) : Met l y_Cxt_entry (.code y_Cxt_entry b_Cxt_entry 2 (some .int) :: AW) { frames := 0, cells := 0, slots := 0, locals := 0 } (va_Pc [.ref k.2.2.1, .int x] (GR D k [])) (va_Qi (fun r (_ : Unit) => r = ent 47 tfP x) (fun _ _ => True) (fun _ => False)) 0 0 (fun _ => False) := by
  refine kMetR (ws := []) (by decide) (Nat.le_of_ble_eq_true rfl) (fun p e s m below meth c ls H Cc hP hS hl => ?_)
  obtain ⟨hx, hb, hml, hr, hlk, hown, hts, hK, hE, hin⟩ := Cc
  have hl : lv_has ls 2 [(0, .ref k.2.2.1), (1, .int x)] := hl
  refine lv_iload_n hx hb d_Cxt_entry_0 rfl (lv_at hl 1 rfl) ?_
  refine lv_if_lt (tgt := 16) hx hb d_Cxt_entry_1 (by decide) (fun c1 => ?_) (fun c1 => ?_)
  · refine lv_iconst (v := 0) hx hb d_Cxt_entry_16 (by decide) ?_
    exact koi hx hb hr hlk hS (by simp [ent, nI_47, tfP, c1]) (Nat.le_of_ble_eq_true rfl) (Nat.le_of_ble_eq_true rfl) d_Cxt_entry_17
  · refine lv_iload_n hx hb d_Cxt_entry_4 rfl (lv_at hl 1 rfl) ?_
    refine lv_aload_n hx hb d_Cxt_entry_5 rfl (lv_at hl 0 rfl) ?_
    refine va_tlen (v := 47) hx hb hE.tP hS rfl d_Cxt_entry_6 ?_
    refine lv_icmp_ge (tgt := 16) hx hb d_Cxt_entry_7 (by decide) (fun c2 => ?_) (fun c2 => ?_)
    · refine lv_iconst (v := 0) hx hb d_Cxt_entry_16 (by decide) ?_
      exact koi hx hb hr hlk hS (by simp [ent, nI_47, tfP, c1, c2]) (Nat.le_of_ble_eq_true rfl) (Nat.le_of_ble_eq_true rfl) d_Cxt_entry_17
    · refine lv_aload_n hx hb d_Cxt_entry_10 rfl (lv_at hl 0 rfl) ?_
      refine lv_iload_n hx hb d_Cxt_entry_11 rfl (lv_at hl 1 rfl) ?_
      refine va_ti hx hb hE.tP hS (ix_in (n := 47) (by decide) c1 c2) rfl d_Cxt_entry_12 ?_
      refine lv_goto (tgt := 17) hx hb d_Cxt_entry_13 (by decide) ?_
      exact koi hx hb hr hlk hS (by simp [ent, nI_47, tfP, c1, c2]) (Nat.le_of_ble_eq_true rfl) (Nat.le_of_ble_eq_true rfl) d_Cxt_entry_17

set_option maxHeartbeats 1000000 in
set_option maxRecDepth 100000 in
theorem c_Cxt_entryN (l : Launch) (hl9 : l.stackTraces = false) (D : va_G) (k : gK) (x : Int32) : Met l y_Cxt_entry (.code y_Cxt_entry b_Cxt_entry 2 (some .int) :: AW) { frames := 0, cells := 0, slots := 0, locals := 0 } (va_Pc [.ref k.2.2.2.1, .int x] (GR D k [])) (va_Qi (fun r (_ : Unit) => r = ent 47 tfN x) (fun _ _ => True) (fun _ => False)) 0 0 (fun _ => False) := by
  refine kMetR (ws := []) (by decide) (Nat.le_of_ble_eq_true rfl) (fun p e s m below meth c ls H Cc hP hS hl => ?_)
  obtain ⟨hx, hb, hml, hr, hlk, hown, hts, hK, hE, hin⟩ := Cc
  have hl : lv_has ls 2 [(0, .ref k.2.2.2.1), (1, .int x)] := hl
  refine lv_iload_n hx hb d_Cxt_entry_0 rfl (lv_at hl 1 rfl) ?_
  refine lv_if_lt (tgt := 16) hx hb d_Cxt_entry_1 (by decide) (fun c1 => ?_) (fun c1 => ?_)
  · refine lv_iconst (v := 0) hx hb d_Cxt_entry_16 (by decide) ?_
    exact koi hx hb hr hlk hS (by simp [ent, nI_47, tfN, c1]) (Nat.le_of_ble_eq_true rfl) (Nat.le_of_ble_eq_true rfl) d_Cxt_entry_17
  · refine lv_iload_n hx hb d_Cxt_entry_4 rfl (lv_at hl 1 rfl) ?_
    refine lv_aload_n hx hb d_Cxt_entry_5 rfl (lv_at hl 0 rfl) ?_
    refine va_tlen (v := 47) hx hb hE.tN hS rfl d_Cxt_entry_6 ?_
    refine lv_icmp_ge (tgt := 16) hx hb d_Cxt_entry_7 (by decide) (fun c2 => ?_) (fun c2 => ?_)
    · refine lv_iconst (v := 0) hx hb d_Cxt_entry_16 (by decide) ?_
      exact koi hx hb hr hlk hS (by simp [ent, nI_47, tfN, c1, c2]) (Nat.le_of_ble_eq_true rfl) (Nat.le_of_ble_eq_true rfl) d_Cxt_entry_17
    · refine lv_aload_n hx hb d_Cxt_entry_10 rfl (lv_at hl 0 rfl) ?_
      refine lv_iload_n hx hb d_Cxt_entry_11 rfl (lv_at hl 1 rfl) ?_
      refine va_ti hx hb hE.tN hS (ix_in (n := 47) (by decide) c1 c2) rfl d_Cxt_entry_12 ?_
      refine lv_goto (tgt := 17) hx hb d_Cxt_entry_13 (by decide) ?_
      exact koi hx hb hr hlk hS (by simp [ent, nI_47, tfN, c1, c2]) (Nat.le_of_ble_eq_true rfl) (Nat.le_of_ble_eq_true rfl) d_Cxt_entry_17

set_option maxHeartbeats 1000000 in
set_option maxRecDepth 100000 in
theorem c_Cxt_entryO (l : Launch) (hl9 : l.stackTraces = false) (D : va_G) (k : gK) (x : Int32) : Met l y_Cxt_entry (.code y_Cxt_entry b_Cxt_entry 2 (some .int) :: AW) { frames := 0, cells := 0, slots := 0, locals := 0 } (va_Pc [.ref k.2.2.2.2.1, .int x] (GR D k [])) (va_Qi (fun r (_ : Unit) => r = ent 47 tfO x) (fun _ _ => True) (fun _ => False)) 0 0 (fun _ => False) := by
  refine kMetR (ws := []) (by decide) (Nat.le_of_ble_eq_true rfl) (fun p e s m below meth c ls H Cc hP hS hl => ?_)
  obtain ⟨hx, hb, hml, hr, hlk, hown, hts, hK, hE, hin⟩ := Cc
  have hl : lv_has ls 2 [(0, .ref k.2.2.2.2.1), (1, .int x)] := hl
  refine lv_iload_n hx hb d_Cxt_entry_0 rfl (lv_at hl 1 rfl) ?_
  refine lv_if_lt (tgt := 16) hx hb d_Cxt_entry_1 (by decide) (fun c1 => ?_) (fun c1 => ?_)
  · refine lv_iconst (v := 0) hx hb d_Cxt_entry_16 (by decide) ?_
    exact koi hx hb hr hlk hS (by simp [ent, nI_47, tfO, c1]) (Nat.le_of_ble_eq_true rfl) (Nat.le_of_ble_eq_true rfl) d_Cxt_entry_17
  · refine lv_iload_n hx hb d_Cxt_entry_4 rfl (lv_at hl 1 rfl) ?_
    refine lv_aload_n hx hb d_Cxt_entry_5 rfl (lv_at hl 0 rfl) ?_
    refine va_tlen (v := 47) hx hb hE.tO hS rfl d_Cxt_entry_6 ?_
    refine lv_icmp_ge (tgt := 16) hx hb d_Cxt_entry_7 (by decide) (fun c2 => ?_) (fun c2 => ?_)
    · refine lv_iconst (v := 0) hx hb d_Cxt_entry_16 (by decide) ?_
      exact koi hx hb hr hlk hS (by simp [ent, nI_47, tfO, c1, c2]) (Nat.le_of_ble_eq_true rfl) (Nat.le_of_ble_eq_true rfl) d_Cxt_entry_17
    · refine lv_aload_n hx hb d_Cxt_entry_10 rfl (lv_at hl 0 rfl) ?_
      refine lv_iload_n hx hb d_Cxt_entry_11 rfl (lv_at hl 1 rfl) ?_
      refine va_ti hx hb hE.tO hS (ix_in (n := 47) (by decide) c1 c2) rfl d_Cxt_entry_12 ?_
      refine lv_goto (tgt := 17) hx hb d_Cxt_entry_13 (by decide) ?_
      exact koi hx hb hr hlk hS (by simp [ent, nI_47, tfO, c1, c2]) (Nat.le_of_ble_eq_true rfl) (Nat.le_of_ble_eq_true rfl) d_Cxt_entry_17

set_option maxHeartbeats 1000000 in
set_option maxRecDepth 100000 in
theorem c_Cxt_stateOf (l : Launch) (hl9 : l.stackTraces = false) (D : va_G) (k : gK) (h0 h1 h2 : Nat) (sf : Nat → Int32) (lf : Nat → Int32) (x : Int32) : Met l y_Cxt_stateOf (.code y_Cxt_stateOf b_Cxt_stateOf 2 (some .int) :: AW) { frames := 1, cells := 0, slots := 0, locals := 21 } (va_Pc [.ref h0, .int x] (GR D k [(h0, .inr (1, [.ref h1, .ref h2])), (h1, .inl (k.1, 19, .inl sf)), (h2, .inl (k.1, 19, .inl lf))])) (va_Qi (fun r (_ : Unit) => r = ent 19 sf x) (fun _ _ => True) (fun _ => False)) 0 0 (fun _ => False) := by
  refine kMetR (ws := [(h0, .inr (1, [.ref h1, .ref h2])), (h1, .inl (k.1, 19, .inl sf)), (h2, .inl (k.1, 19, .inl lf))]) (by decide) (Nat.le_of_ble_eq_true rfl) (fun p e s m below meth c ls H Cc hP hS hl => ?_)
  obtain ⟨hx, hb, hml, hr, hlk, hown, hts, hK, hE, hin⟩ := Cc
  have hl : lv_has ls 2 [(0, .ref h0), (1, .int x)] := hl
  refine lv_aload_n hx hb d_Cxt_stateOf_0 rfl (lv_at hl 0 rfl) ?_
  refine va_get (D := D) (ci := 1) (v := .ref h1) (C := R_Cxt) (T := T_Cxt) (N := 2) hx hb hts inw_Cxt hown hK hP 0 rfl rfl 0 (by decide) (hts (.fieldLink R_Cxt 9 "LikelyBits$Contexts" "states" "[I") mw_20) (fun _ h9 => h9) rfl d_Cxt_stateOf_1 ?_
  refine lv_iload_n hx hb d_Cxt_stateOf_4 rfl (lv_at hl 1 rfl) ?_
  refine kqi (va_runS (As := [.ref h1, .int x]) (rest := []) ⟨hx, hb, hml, hown, hts⟩ (c_Cxt_entry l hl9 D k h1 sf x ) (cwS 2 hts (gS mw_21 mw_22 mw_23 mw_24) rfl rfl rfl (by decide +kernel) ⟨(Nat.le_of_ble_eq_true rfl), (Nat.le_of_ble_eq_true rfl)⟩) (kPreR (wc := [(h1, .inl (k.1, 19, .inl sf))]) hE hK hP hS [1] rfl) rfl rfl hl.1 rfl (lv_room (Nat.le_of_ble_eq_true rfl)) d_Cxt_stateOf_5 ⟨(Nat.le_of_ble_eq_true rfl), (Nat.le_of_ble_eq_true rfl)⟩) hP hS (fun r1 H locs hw hP hS => ?_)
  replace hw := hw.symm
  subst hw
  exact koi hx hb hr hlk hS rfl (Nat.le_of_ble_eq_true rfl) (Nat.le_of_ble_eq_true rfl) d_Cxt_stateOf_8

set_option maxHeartbeats 1000000 in
set_option maxRecDepth 100000 in
theorem c_Cxt_likelyBitOf (l : Launch) (hl9 : l.stackTraces = false) (D : va_G) (k : gK) (h0 h1 h2 : Nat) (sf : Nat → Int32) (lf : Nat → Int32) (x : Int32) : Met l y_Cxt_likelyBitOf (.code y_Cxt_likelyBitOf b_Cxt_likelyBitOf 2 (some .int) :: AW) { frames := 1, cells := 0, slots := 0, locals := 21 } (va_Pc [.ref h0, .int x] (GR D k [(h0, .inr (1, [.ref h1, .ref h2])), (h1, .inl (k.1, 19, .inl sf)), (h2, .inl (k.1, 19, .inl lf))])) (va_Qi (fun r (_ : Unit) => r = ent 19 lf x) (fun _ _ => True) (fun _ => False)) 0 0 (fun _ => False) := by
  refine kMetR (ws := [(h0, .inr (1, [.ref h1, .ref h2])), (h1, .inl (k.1, 19, .inl sf)), (h2, .inl (k.1, 19, .inl lf))]) (by decide) (Nat.le_of_ble_eq_true rfl) (fun p e s m below meth c ls H Cc hP hS hl => ?_)
  obtain ⟨hx, hb, hml, hr, hlk, hown, hts, hK, hE, hin⟩ := Cc
  have hl : lv_has ls 2 [(0, .ref h0), (1, .int x)] := hl
  refine lv_aload_n hx hb d_Cxt_likelyBitOf_0 rfl (lv_at hl 0 rfl) ?_
  refine va_get (D := D) (ci := 1) (v := .ref h2) (C := R_Cxt) (T := T_Cxt) (N := 2) hx hb hts inw_Cxt hown hK hP 0 rfl rfl 1 (by decide) (hts (.fieldLink R_Cxt 15 "LikelyBits$Contexts" "likelyBits" "[I") mw_25) (fun _ h9 => h9) rfl d_Cxt_likelyBitOf_1 ?_
  refine lv_iload_n hx hb d_Cxt_likelyBitOf_4 rfl (lv_at hl 1 rfl) ?_
  refine kqi (va_runS (As := [.ref h2, .int x]) (rest := []) ⟨hx, hb, hml, hown, hts⟩ (c_Cxt_entry l hl9 D k h2 lf x ) (cwS 2 hts (gS mw_21 mw_22 mw_23 mw_24) rfl rfl rfl (by decide +kernel) ⟨(Nat.le_of_ble_eq_true rfl), (Nat.le_of_ble_eq_true rfl)⟩) (kPreR (wc := [(h2, .inl (k.1, 19, .inl lf))]) hE hK hP hS [2] rfl) rfl rfl hl.1 rfl (lv_room (Nat.le_of_ble_eq_true rfl)) d_Cxt_likelyBitOf_5 ⟨(Nat.le_of_ble_eq_true rfl), (Nat.le_of_ble_eq_true rfl)⟩) hP hS (fun r1 H locs hw hP hS => ?_)
  replace hw := hw.symm
  subst hw
  exact koi hx hb hr hlk hS rfl (Nat.le_of_ble_eq_true rfl) (Nat.le_of_ble_eq_true rfl) d_Cxt_likelyBitOf_8

set_option maxHeartbeats 1000000 in
set_option maxRecDepth 100000 in
theorem c_Cxt_partOf (l : Launch) (hl9 : l.stackTraces = false) (D : va_G) (k : gK) (h0 h1 h2 : Nat) (sf : Nat → Int32) (lf : Nat → Int32) (x : Int32) : Met l y_Cxt_partOf (.code y_Cxt_partOf b_Cxt_partOf 2 (some .int) :: AW) { frames := 2, cells := 0, slots := 0, locals := 42 } (va_Pc [.ref h0, .int x] (GR D k [(h0, .inr (1, [.ref h1, .ref h2])), (h1, .inl (k.1, 19, .inl sf)), (h2, .inl (k.1, 19, .inl lf))])) (va_Qi (fun r (_ : Unit) => r = prt sf x) (fun _ _ => True) (fun _ => False)) 0 0 (fun _ => False) := by
  refine kMetR (ws := [(h0, .inr (1, [.ref h1, .ref h2])), (h1, .inl (k.1, 19, .inl sf)), (h2, .inl (k.1, 19, .inl lf))]) (by decide) (Nat.le_of_ble_eq_true rfl) (fun p e s m below meth c ls H Cc hP hS hl => ?_)
  obtain ⟨hx, hb, hml, hr, hlk, hown, hts, hK, hE, hin⟩ := Cc
  have hl : lv_has ls 2 [(0, .ref h0), (1, .int x)] := hl
  refine va_getsN hx hb hE.zP hS hown (hE.nest (.fieldLinkNest R_Cxt 22 "LikelyBits" "PARTS" "[I" "LikelyBits") nw_0) (fun _ h9 => h9) d_Cxt_partOf_0 ?_
  refine lv_aload_n hx hb d_Cxt_partOf_3 rfl (lv_at hl 0 rfl) ?_
  refine lv_iload_n hx hb d_Cxt_partOf_4 rfl (lv_at hl 1 rfl) ?_
  refine kqi (va_runV (As := [.int x]) (rest := [.ref k.2.2.1]) ⟨hx, hb, hml, hown, hts⟩ (c_Cxt_stateOf l hl9 D k h0 h1 h2 sf lf x ) (cwV 1 hts (gV mw_26 mw_27 mw_28 mw_23 mw_29) rfl rfl rfl (by decide +kernel) ⟨(Nat.le_of_ble_eq_true rfl), (Nat.le_of_ble_eq_true rfl)⟩) (kRecv (q := (R_Cxt, T_Cxt, 2)) (q0 := 0) (ci := 1) hK hP rfl rfl (kPreR (wc := [(h0, .inr (1, [.ref h1, .ref h2])), (h1, .inl (k.1, 19, .inl sf)), (h2, .inl (k.1, 19, .inl lf))]) hE hK hP hS [0, 1, 2] rfl)) rfl rfl hl.1 rfl (lv_room (Nat.le_of_ble_eq_true rfl)) d_Cxt_partOf_5 ⟨(Nat.le_of_ble_eq_true rfl), (Nat.le_of_ble_eq_true rfl)⟩) hP hS (fun r1 H locs hw hP hS => ?_)
  replace hw := hw.symm
  subst hw
  refine kqi (va_runS (As := [.ref k.2.2.1, .int (ent 19 sf x)]) (rest := []) ⟨hx, hb, hml, hown, hts⟩ (c_Cxt_entryP l hl9 D k  (ent 19 sf x) ) (cwS 2 hts (gS mw_21 mw_22 mw_23 mw_24) rfl rfl rfl (by decide +kernel) ⟨(Nat.le_of_ble_eq_true rfl), (Nat.le_of_ble_eq_true rfl)⟩) (kPreR (wc := []) hE hK hP hS [] rfl) rfl rfl hl.1 rfl (lv_room (Nat.le_of_ble_eq_true rfl)) d_Cxt_partOf_8 ⟨(Nat.le_of_ble_eq_true rfl), (Nat.le_of_ble_eq_true rfl)⟩) hP hS (fun r2 H locs hw hP hS => ?_)
  replace hw := hw.symm
  subst hw
  exact koi hx hb hr hlk hS rfl (Nat.le_of_ble_eq_true rfl) (Nat.le_of_ble_eq_true rfl) d_Cxt_partOf_11

set_option maxHeartbeats 1000000 in
set_option maxRecDepth 100000 in
theorem c_Cxt_turns (l : Launch) (hl9 : l.stackTraces = false) (D : va_G) (k : gK) (x : Int32) : Met l y_Cxt_turns (.code y_Cxt_turns b_Cxt_turns 1 (some .boolean) :: AW) { frames := 0, cells := 0, slots := 0, locals := 0 } (va_Pc [.int x] (GR D k [])) (va_Qi (fun r (_ : Unit) => r = trn x) (fun _ _ => True) (fun _ => False)) 0 0 (fun _ => False) := by
  refine kMetR (ws := []) (by decide) (Nat.le_of_ble_eq_true rfl) (fun p e s m below meth c ls H Cc hP hS hl => ?_)
  obtain ⟨hx, hb, hml, hr, hlk, hown, hts, hK, hE, hin⟩ := Cc
  have hl : lv_has ls 1 [(0, .int x)] := hl
  refine lv_iload_n hx hb d_Cxt_turns_0 rfl (lv_at hl 0 rfl) ?_
  refine lv_if_eq (tgt := 16) hx hb d_Cxt_turns_1 (by decide) (fun c1 => ?_) (fun c1 => ?_)
  · refine lv_iconst (v := 1) hx hb d_Cxt_turns_16 (by decide) ?_
    refine lv_goto (tgt := 21) hx hb d_Cxt_turns_17 (by decide) ?_
    exact koz hx hb hr hlk hS (Or.inr rfl) (by simp [trn, c1]) (Nat.le_of_ble_eq_true rfl) (Nat.le_of_ble_eq_true rfl) d_Cxt_turns_21
  · refine lv_iload_n hx hb d_Cxt_turns_4 rfl (lv_at hl 0 rfl) ?_
    refine lv_bipush (v := 6) hx hb d_Cxt_turns_5 (by decide) ?_
    refine lv_icmp_eq (tgt := 16) hx hb d_Cxt_turns_7 (by decide) (fun c2 => ?_) (fun c2 => ?_)
    · refine lv_iconst (v := 1) hx hb d_Cxt_turns_16 (by decide) ?_
      refine lv_goto (tgt := 21) hx hb d_Cxt_turns_17 (by decide) ?_
      exact koz hx hb hr hlk hS (Or.inr rfl) (by simp [trn, c1, c2]) (Nat.le_of_ble_eq_true rfl) (Nat.le_of_ble_eq_true rfl) d_Cxt_turns_21
    · refine lv_iload_n hx hb d_Cxt_turns_10 rfl (lv_at hl 0 rfl) ?_
      refine lv_bipush (v := 14) hx hb d_Cxt_turns_11 (by decide) ?_
      refine lv_icmp_ne (tgt := 20) hx hb d_Cxt_turns_13 (by decide) (fun c3 => ?_) (fun c3 => ?_)
      · refine lv_iconst (v := 0) hx hb d_Cxt_turns_20 (by decide) ?_
        exact koz hx hb hr hlk hS (Or.inl rfl) (by simp [trn, c1, c2, c3]) (Nat.le_of_ble_eq_true rfl) (Nat.le_of_ble_eq_true rfl) d_Cxt_turns_21
      · refine lv_iconst (v := 1) hx hb d_Cxt_turns_16 (by decide) ?_
        refine lv_goto (tgt := 21) hx hb d_Cxt_turns_17 (by decide) ?_
        exact koz hx hb hr hlk hS (Or.inr rfl) (by simp [trn, c1, c2, c3]) (Nat.le_of_ble_eq_true rfl) (Nat.le_of_ble_eq_true rfl) d_Cxt_turns_21

def wo_Cxt_set (k : gK) (h0 h1 h2 : Nat) (sf : Nat → Int32) (lf : Nat → Int32) (x : Int32) (y : Int32) (z : Int32) (zz : Unit) (uu : (Nat → Int32) × (Nat → Int32)) : va_W := match zz, uu with
  | _, (sf2, lf2) => [(h0, .inr (1, [.ref h1, .ref h2])), (h1, .inl (k.1, 19, .inl sf2)), (h2, .inl (k.1, 19, .inl lf2))]
def ex_Cxt_set (k : gK) (h0 h1 h2 : Nat) (sf : Nat → Int32) (lf : Nat → Int32) (x : Int32) (y : Int32) (z : Int32) (zz : Unit) (uu : (Nat → Int32) × (Nat → Int32)) : Prop := match zz, uu with
  | _, (sf2, lf2) => True
def po_Cxt_set (k : gK) (h0 h1 h2 : Nat) (sf : Nat → Int32) (lf : Nat → Int32) (x : Int32) (y : Int32) (z : Int32) (uu : (Nat → Int32) × (Nat → Int32)) : Prop := match uu with
  | (sf2, lf2) => sf2 = (cset sf lf x y z).1 ∧ lf2 = (cset sf lf x y z).2
def qc_Cxt_set (D : va_G) (k : gK) (h0 h1 h2 : Nat) (sf : Nat → Int32) (lf : Nat → Int32) (x : Int32) (y : Int32) (z : Int32) (A : Nat → Prop) : Array Value → State → Outcome → State → Prop := va_Qv (po_Cxt_set k h0 h1 h2 sf lf x y z) (fun uu t => ∃ zz, ex_Cxt_set k h0 h1 h2 sf lf x y z zz uu ∧ GP D A (wo_Cxt_set k h0 h1 h2 sf lf x y z zz uu) t) A
set_option maxHeartbeats 1000000 in
set_option maxRecDepth 100000 in
theorem c_Cxt_set (l : Launch) (hl9 : l.stackTraces = false) (D : va_G) (k : gK) (h0 h1 h2 : Nat) (zsz : Nat) (sf : Nat → Int32) (lf : Nat → Int32) (x : Int32) (y : Int32) (z : Int32) : Met l y_Cxt_set (.code y_Cxt_set b_Cxt_set 4 none :: AW) ({ frames := 0, cells := 0, slots := 0, locals := 0 }) (va_Pc [.ref h0, .int x, .int y, .int z] (GG D k [(h0, .inr (1, [.ref h1, .ref h2])), (h1, .inl (k.1, 19, .inl sf)), (h2, .inl (k.1, 19, .inl lf))] zsz)) (qc_Cxt_set D k h0 h1 h2 sf lf x y z (va_A [(h0, .inr (1, [.ref h1, .ref h2])), (h1, .inl (k.1, 19, .inl sf)), (h2, .inl (k.1, 19, .inl lf))] zsz)) 0 0 (va_A [(h0, .inr (1, [.ref h1, .ref h2])), (h1, .inl (k.1, 19, .inl sf)), (h2, .inl (k.1, 19, .inl lf))] zsz) := by
  refine kMet (ws := [(h0, .inr (1, [.ref h1, .ref h2])), (h1, .inl (k.1, 19, .inl sf)), (h2, .inl (k.1, 19, .inl lf))]) (Qc := qc_Cxt_set D k h0 h1 h2 sf lf x y z) (by decide) (Nat.le_of_ble_eq_true rfl) (fun p e s m below meth c ls A H Cc hP hD hA hS hl => ?_)
  obtain ⟨hx, hb, hml, hr, hlk, hown, hts, hK, hE, hin⟩ := Cc
  have hl : lv_has ls 4 [(0, .ref h0), (1, .int x), (2, .int y), (3, .int z)] := hl
  refine lv_iload_n hx hb d_Cxt_set_0 rfl (lv_at hl 1 rfl) ?_
  refine lv_if_lt (tgt := 36) hx hb d_Cxt_set_1 (by decide) (fun c1 => ?_) (fun c1 => ?_)
  · exact krv (wo := wo_Cxt_set k h0 h1 h2 sf lf x y z) hx hb hr hlk hP hD hS (sf, lf) () (by simp [po_Cxt_set, cset, c1]) trivial [0, 1, 2] rfl (by decide) (Nat.le_of_ble_eq_true rfl) (Nat.le_of_ble_eq_true rfl) d_Cxt_set_36
  · refine lv_iload_n hx hb d_Cxt_set_4 rfl (lv_at hl 1 rfl) ?_
    refine lv_aload_n hx hb d_Cxt_set_5 rfl (lv_at hl 0 rfl) ?_
    refine va_get (D := D) (ci := 1) (v := .ref h1) (C := R_Cxt) (T := T_Cxt) (N := 2) hx hb hts inw_Cxt hown hK hP 0 rfl rfl 0 (by decide) (hts (.fieldLink R_Cxt 9 "LikelyBits$Contexts" "states" "[I") mw_20) (fun _ h9 => h9) rfl d_Cxt_set_6 ?_
    refine va_alen (v := 19) hx hb hK hP 1 0 rfl rfl rfl d_Cxt_set_9 ?_
    refine lv_icmp_ge (tgt := 36) hx hb d_Cxt_set_10 (by decide) (fun c2 => ?_) (fun c2 => ?_)
    · exact krv (wo := wo_Cxt_set k h0 h1 h2 sf lf x y z) hx hb hr hlk hP hD hS (sf, lf) () (by simp [po_Cxt_set, cset, c1, c2]) trivial [0, 1, 2] rfl (by decide) (Nat.le_of_ble_eq_true rfl) (Nat.le_of_ble_eq_true rfl) d_Cxt_set_36
    · refine lv_iload_n hx hb d_Cxt_set_13 rfl (lv_at hl 1 rfl) ?_
      refine lv_aload_n hx hb d_Cxt_set_14 rfl (lv_at hl 0 rfl) ?_
      refine va_get (D := D) (ci := 1) (v := .ref h2) (C := R_Cxt) (T := T_Cxt) (N := 2) hx hb hts inw_Cxt hown hK hP 0 rfl rfl 1 (by decide) (hts (.fieldLink R_Cxt 15 "LikelyBits$Contexts" "likelyBits" "[I") mw_25) (fun _ h9 => h9) rfl d_Cxt_set_15 ?_
      refine va_alen (v := 19) hx hb hK hP 2 0 rfl rfl rfl d_Cxt_set_18 ?_
      refine lv_icmp_ge (tgt := 36) hx hb d_Cxt_set_19 (by decide) (fun c3 => ?_) (fun c3 => ?_)
      · exact absurd c3 c2
      · refine lv_aload_n hx hb d_Cxt_set_22 rfl (lv_at hl 0 rfl) ?_
        refine va_get (D := D) (ci := 1) (v := .ref h1) (C := R_Cxt) (T := T_Cxt) (N := 2) hx hb hts inw_Cxt hown hK hP 0 rfl rfl 0 (by decide) (hts (.fieldLink R_Cxt 9 "LikelyBits$Contexts" "states" "[I") mw_20) (fun _ h9 => h9) rfl d_Cxt_set_23 ?_
        refine lv_iload_n hx hb d_Cxt_set_26 rfl (lv_at hl 1 rfl) ?_
        refine lv_iload_n hx hb d_Cxt_set_27 rfl (lv_at hl 2 rfl) ?_
        refine va_iast hx hb hK hP hD hS 1 0 rfl rfl (ix_in (n := 19) (by decide) c1 c2) d_Cxt_set_28 (fun H locs hP hD hS => ?_)
        have hP : va_P D vwCl [(h0, .inr (1, [.ref h1, .ref h2])), (h1, .inl (k.1, 19, .inl (upd sf x.toNatClampNeg y))), (h2, .inl (k.1, 19, .inl lf))] H := hP
        have hD : va_D A [(h0, .inr (1, [.ref h1, .ref h2])), (h1, .inl (k.1, 19, .inl (upd sf x.toNatClampNeg y))), (h2, .inl (k.1, 19, .inl lf))] := hD
        refine lv_aload_n hx hb d_Cxt_set_29 rfl (lv_at hl 0 rfl) ?_
        refine va_get (D := D) (ci := 1) (v := .ref h2) (C := R_Cxt) (T := T_Cxt) (N := 2) hx hb hts inw_Cxt hown hK hP 0 rfl rfl 1 (by decide) (hts (.fieldLink R_Cxt 15 "LikelyBits$Contexts" "likelyBits" "[I") mw_25) (fun _ h9 => h9) rfl d_Cxt_set_30 ?_
        refine lv_iload_n hx hb d_Cxt_set_33 rfl (lv_at hl 1 rfl) ?_
        refine lv_iload_n hx hb d_Cxt_set_34 rfl (lv_at hl 3 rfl) ?_
        refine va_iast hx hb hK hP hD hS 2 0 rfl rfl (ix_in (n := 19) (by decide) c1 c2) d_Cxt_set_35 (fun H locs hP hD hS => ?_)
        have hP : va_P D vwCl [(h0, .inr (1, [.ref h1, .ref h2])), (h1, .inl (k.1, 19, .inl (upd sf x.toNatClampNeg y))), (h2, .inl (k.1, 19, .inl (upd lf x.toNatClampNeg z)))] H := hP
        have hD : va_D A [(h0, .inr (1, [.ref h1, .ref h2])), (h1, .inl (k.1, 19, .inl (upd sf x.toNatClampNeg y))), (h2, .inl (k.1, 19, .inl (upd lf x.toNatClampNeg z)))] := hD
        exact krv (wo := wo_Cxt_set k h0 h1 h2 sf lf x y z) hx hb hr hlk hP hD hS (upd sf x.toNatClampNeg y, upd lf x.toNatClampNeg z) () (by simp [po_Cxt_set, cset, c1, c2, c3]) trivial [0, 1, 2] rfl (by decide) (Nat.le_of_ble_eq_true rfl) (Nat.le_of_ble_eq_true rfl) d_Cxt_set_36

def wo_Cxt_afterLikely (k : gK) (h0 h1 h2 : Nat) (sf : Nat → Int32) (lf : Nat → Int32) (x : Int32) (zz : Unit) (uu : (Nat → Int32) × (Nat → Int32)) : va_W := match zz, uu with
  | _, (sf2, lf2) => [(h0, .inr (1, [.ref h1, .ref h2])), (h1, .inl (k.1, 19, .inl sf2)), (h2, .inl (k.1, 19, .inl lf2))]
def ex_Cxt_afterLikely (k : gK) (h0 h1 h2 : Nat) (sf : Nat → Int32) (lf : Nat → Int32) (x : Int32) (zz : Unit) (uu : (Nat → Int32) × (Nat → Int32)) : Prop := match zz, uu with
  | _, (sf2, lf2) => True
def po_Cxt_afterLikely (k : gK) (h0 h1 h2 : Nat) (sf : Nat → Int32) (lf : Nat → Int32) (x : Int32) (uu : (Nat → Int32) × (Nat → Int32)) : Prop := match uu with
  | (sf2, lf2) => sf2 = (cLk sf lf x).1 ∧ lf2 = (cLk sf lf x).2
def qc_Cxt_afterLikely (D : va_G) (k : gK) (h0 h1 h2 : Nat) (sf : Nat → Int32) (lf : Nat → Int32) (x : Int32) (A : Nat → Prop) : Array Value → State → Outcome → State → Prop := va_Qv (po_Cxt_afterLikely k h0 h1 h2 sf lf x) (fun uu t => ∃ zz, ex_Cxt_afterLikely k h0 h1 h2 sf lf x zz uu ∧ GP D A (wo_Cxt_afterLikely k h0 h1 h2 sf lf x zz uu) t) A
set_option maxHeartbeats 1000000 in
set_option maxRecDepth 100000 in
theorem c_Cxt_afterLikely (l : Launch) (hl9 : l.stackTraces = false) (D : va_G) (k : gK) (h0 h1 h2 : Nat) (zsz : Nat) (sf : Nat → Int32) (lf : Nat → Int32) (x : Int32) : Met l y_Cxt_afterLikely (.code y_Cxt_afterLikely b_Cxt_afterLikely 2 none :: AW) ({ frames := 2, cells := 0, slots := 0, locals := 42 }) (va_Pc [.ref h0, .int x] (GG D k [(h0, .inr (1, [.ref h1, .ref h2])), (h1, .inl (k.1, 19, .inl sf)), (h2, .inl (k.1, 19, .inl lf))] zsz)) (qc_Cxt_afterLikely D k h0 h1 h2 sf lf x (va_A [(h0, .inr (1, [.ref h1, .ref h2])), (h1, .inl (k.1, 19, .inl sf)), (h2, .inl (k.1, 19, .inl lf))] zsz)) 0 0 (va_A [(h0, .inr (1, [.ref h1, .ref h2])), (h1, .inl (k.1, 19, .inl sf)), (h2, .inl (k.1, 19, .inl lf))] zsz) := by
  refine kMet (ws := [(h0, .inr (1, [.ref h1, .ref h2])), (h1, .inl (k.1, 19, .inl sf)), (h2, .inl (k.1, 19, .inl lf))]) (Qc := qc_Cxt_afterLikely D k h0 h1 h2 sf lf x) (by decide) (Nat.le_of_ble_eq_true rfl) (fun p e s m below meth c ls A H Cc hP hD hA hS hl => ?_)
  obtain ⟨hx, hb, hml, hr, hlk, hown, hts, hK, hE, hin⟩ := Cc
  have hl : lv_has ls 2 [(0, .ref h0), (1, .int x)] := hl
  refine lv_aload_n hx hb d_Cxt_afterLikely_0 rfl (lv_at hl 0 rfl) ?_
  refine lv_iload_n hx hb d_Cxt_afterLikely_1 rfl (lv_at hl 1 rfl) ?_
  refine va_getsN hx hb hE.zN hS hown (hE.nest (.fieldLinkNest R_Cxt 29 "LikelyBits" "NEXT_STATES" "[I" "LikelyBits") nw_1) (fun _ h9 => h9) d_Cxt_afterLikely_2 ?_
  refine lv_aload_n hx hb d_Cxt_afterLikely_5 rfl (lv_at hl 0 rfl) ?_
  refine lv_iload_n hx hb d_Cxt_afterLikely_6 rfl (lv_at hl 1 rfl) ?_
  refine kqi (va_runV (As := [.int x]) (rest := [.ref k.2.2.2.1, .int x, .ref h0]) ⟨hx, hb, hml, hown, hts⟩ (c_Cxt_stateOf l hl9 D k h0 h1 h2 sf lf x ) (cwV 1 hts (gV mw_26 mw_27 mw_28 mw_23 mw_29) rfl rfl rfl (by decide +kernel) ⟨(Nat.le_of_ble_eq_true rfl), (Nat.le_of_ble_eq_true rfl)⟩) (kRecv (q := (R_Cxt, T_Cxt, 2)) (q0 := 0) (ci := 1) hK hP rfl rfl (kPreR (wc := [(h0, .inr (1, [.ref h1, .ref h2])), (h1, .inl (k.1, 19, .inl sf)), (h2, .inl (k.1, 19, .inl lf))]) hE hK hP hS [0, 1, 2] rfl)) rfl rfl hl.1 rfl (lv_room (Nat.le_of_ble_eq_true rfl)) d_Cxt_afterLikely_7 ⟨(Nat.le_of_ble_eq_true rfl), (Nat.le_of_ble_eq_true rfl)⟩) hP hS (fun r1 H locs hw hP hS => ?_)
  replace hw := hw.symm
  subst hw
  refine kqi (va_runS (As := [.ref k.2.2.2.1, .int (ent 19 sf x)]) (rest := [.int x, .ref h0]) ⟨hx, hb, hml, hown, hts⟩ (c_Cxt_entryN l hl9 D k  (ent 19 sf x) ) (cwS 2 hts (gS mw_21 mw_22 mw_23 mw_24) rfl rfl rfl (by decide +kernel) ⟨(Nat.le_of_ble_eq_true rfl), (Nat.le_of_ble_eq_true rfl)⟩) (kPreR (wc := []) hE hK hP hS [] rfl) rfl rfl hl.1 rfl (lv_room (Nat.le_of_ble_eq_true rfl)) d_Cxt_afterLikely_10 ⟨(Nat.le_of_ble_eq_true rfl), (Nat.le_of_ble_eq_true rfl)⟩) hP hS (fun r2 H locs hw hP hS => ?_)
  replace hw := hw.symm
  subst hw
  refine lv_aload_n hx hb d_Cxt_afterLikely_13 rfl (lv_at hl 0 rfl) ?_
  refine lv_iload_n hx hb d_Cxt_afterLikely_14 rfl (lv_at hl 1 rfl) ?_
  refine kqi (va_runV (As := [.int x]) (rest := [.int (ent 47 tfN (ent 19 sf x)), .int x, .ref h0]) ⟨hx, hb, hml, hown, hts⟩ (c_Cxt_likelyBitOf l hl9 D k h0 h1 h2 sf lf x ) (cwV 1 hts (gV mw_30 mw_31 mw_32 mw_23 mw_33) rfl rfl rfl (by decide +kernel) ⟨(Nat.le_of_ble_eq_true rfl), (Nat.le_of_ble_eq_true rfl)⟩) (kRecv (q := (R_Cxt, T_Cxt, 2)) (q0 := 0) (ci := 1) hK hP rfl rfl (kPreR (wc := [(h0, .inr (1, [.ref h1, .ref h2])), (h1, .inl (k.1, 19, .inl sf)), (h2, .inl (k.1, 19, .inl lf))]) hE hK hP hS [0, 1, 2] rfl)) rfl rfl hl.1 rfl (lv_room (Nat.le_of_ble_eq_true rfl)) d_Cxt_afterLikely_15 ⟨(Nat.le_of_ble_eq_true rfl), (Nat.le_of_ble_eq_true rfl)⟩) hP hS (fun r3 H locs hw hP hS => ?_)
  replace hw := hw.symm
  subst hw
  refine kcv (wc := [(h0, .inr (1, [.ref h1, .ref h2])), (h1, .inl (k.1, 19, .inl sf)), (h2, .inl (k.1, 19, .inl lf))]) (wr := []) (va_runV (As := [.int x, .int (ent 47 tfN (ent 19 sf x)), .int (ent 19 lf x)]) (rest := []) ⟨hx, hb, hml, hown, hts⟩ (c_Cxt_set l hl9 D k h0 h1 h2 H.size sf lf x (ent 47 tfN (ent 19 sf x)) (ent 19 lf x) ) (cwV 3 hts (gV mw_34 mw_35 mw_36 mw_23 mw_37) rfl rfl rfl (by decide +kernel) ⟨(Nat.le_of_ble_eq_true rfl), (Nat.le_of_ble_eq_true rfl)⟩) (kRecv (q := (R_Cxt, T_Cxt, 2)) (q0 := 0) (ci := 1) hK hP rfl rfl (kPre (wc := [(h0, .inr (1, [.ref h1, .ref h2])), (h1, .inl (k.1, 19, .inl sf)), (h2, .inl (k.1, 19, .inl lf))]) hE hK hP hD hS hA [0, 1, 2] rfl (by decide))) rfl rfl hl.1 rfl (lv_room (Nat.le_of_ble_eq_true rfl)) d_Cxt_afterLikely_18 ⟨(Nat.le_of_ble_eq_true rfl), (Nat.le_of_ble_eq_true rfl)⟩) hP hD hS hA [0, 1, 2] [] rfl rfl (by decide) (by decide) (fun zz uu H locs hw7 hz8 hP hD hS => ?_)
  obtain ⟨sf_4, lf_5⟩ := uu
  have hw7 : sf_4 = (cset sf lf x (ent 47 tfN (ent 19 sf x)) (ent 19 lf x)).1 ∧ lf_5 = (cset sf lf x (ent 47 tfN (ent 19 sf x)) (ent 19 lf x)).2 := hw7
  have hP : va_P D vwCl [(h0, .inr (1, [.ref h1, .ref h2])), (h1, .inl (k.1, 19, .inl sf_4)), (h2, .inl (k.1, 19, .inl lf_5))] H := hP
  have hD : va_D A [(h0, .inr (1, [.ref h1, .ref h2])), (h1, .inl (k.1, 19, .inl sf_4)), (h2, .inl (k.1, 19, .inl lf_5))] := hD
  exact krv (wo := wo_Cxt_afterLikely k h0 h1 h2 sf lf x) hx hb hr hlk hP hD hS (sf_4, lf_5) () (by obtain ⟨rfl, rfl⟩ := hw7; simp [po_Cxt_afterLikely, cLk]) trivial [0, 1, 2] rfl (by decide) (Nat.le_of_ble_eq_true rfl) (Nat.le_of_ble_eq_true rfl) d_Cxt_afterLikely_21

def wo_Cxt_afterOther (k : gK) (h0 h1 h2 : Nat) (sf : Nat → Int32) (lf : Nat → Int32) (x : Int32) (zz : Unit) (uu : (Nat → Int32) × (Nat → Int32)) : va_W := match zz, uu with
  | _, (sf2, lf2) => [(h0, .inr (1, [.ref h1, .ref h2])), (h1, .inl (k.1, 19, .inl sf2)), (h2, .inl (k.1, 19, .inl lf2))]
def ex_Cxt_afterOther (k : gK) (h0 h1 h2 : Nat) (sf : Nat → Int32) (lf : Nat → Int32) (x : Int32) (zz : Unit) (uu : (Nat → Int32) × (Nat → Int32)) : Prop := match zz, uu with
  | _, (sf2, lf2) => True
def po_Cxt_afterOther (k : gK) (h0 h1 h2 : Nat) (sf : Nat → Int32) (lf : Nat → Int32) (x : Int32) (uu : (Nat → Int32) × (Nat → Int32)) : Prop := match uu with
  | (sf2, lf2) => sf2 = (cOt sf lf x).1 ∧ lf2 = (cOt sf lf x).2
def qc_Cxt_afterOther (D : va_G) (k : gK) (h0 h1 h2 : Nat) (sf : Nat → Int32) (lf : Nat → Int32) (x : Int32) (A : Nat → Prop) : Array Value → State → Outcome → State → Prop := va_Qv (po_Cxt_afterOther k h0 h1 h2 sf lf x) (fun uu t => ∃ zz, ex_Cxt_afterOther k h0 h1 h2 sf lf x zz uu ∧ GP D A (wo_Cxt_afterOther k h0 h1 h2 sf lf x zz uu) t) A
set_option maxHeartbeats 1000000 in
set_option maxRecDepth 100000 in
theorem c_Cxt_afterOther (l : Launch) (hl9 : l.stackTraces = false) (D : va_G) (k : gK) (h0 h1 h2 : Nat) (zsz : Nat) (sf : Nat → Int32) (lf : Nat → Int32) (x : Int32) : Met l y_Cxt_afterOther (.code y_Cxt_afterOther b_Cxt_afterOther 4 none :: AW) ({ frames := 2, cells := 0, slots := 0, locals := 42 }) (va_Pc [.ref h0, .int x] (GG D k [(h0, .inr (1, [.ref h1, .ref h2])), (h1, .inl (k.1, 19, .inl sf)), (h2, .inl (k.1, 19, .inl lf))] zsz)) (qc_Cxt_afterOther D k h0 h1 h2 sf lf x (va_A [(h0, .inr (1, [.ref h1, .ref h2])), (h1, .inl (k.1, 19, .inl sf)), (h2, .inl (k.1, 19, .inl lf))] zsz)) 0 0 (va_A [(h0, .inr (1, [.ref h1, .ref h2])), (h1, .inl (k.1, 19, .inl sf)), (h2, .inl (k.1, 19, .inl lf))] zsz) := by
  refine kMet (ws := [(h0, .inr (1, [.ref h1, .ref h2])), (h1, .inl (k.1, 19, .inl sf)), (h2, .inl (k.1, 19, .inl lf))]) (Qc := qc_Cxt_afterOther D k h0 h1 h2 sf lf x) (by decide) (Nat.le_of_ble_eq_true rfl) (fun p e s m below meth c ls A H Cc hP hD hA hS hl => ?_)
  obtain ⟨hx, hb, hml, hr, hlk, hown, hts, hK, hE, hin⟩ := Cc
  have hl : lv_has ls 4 [(0, .ref h0), (1, .int x)] := hl
  refine lv_aload_n hx hb d_Cxt_afterOther_0 rfl (lv_at hl 0 rfl) ?_
  refine lv_iload_n hx hb d_Cxt_afterOther_1 rfl (lv_at hl 1 rfl) ?_
  refine kqi (va_runV (As := [.int x]) (rest := []) ⟨hx, hb, hml, hown, hts⟩ (c_Cxt_stateOf l hl9 D k h0 h1 h2 sf lf x ) (cwV 1 hts (gV mw_26 mw_27 mw_28 mw_23 mw_29) rfl rfl rfl (by decide +kernel) ⟨(Nat.le_of_ble_eq_true rfl), (Nat.le_of_ble_eq_true rfl)⟩) (kRecv (q := (R_Cxt, T_Cxt, 2)) (q0 := 0) (ci := 1) hK hP rfl rfl (kPreR (wc := [(h0, .inr (1, [.ref h1, .ref h2])), (h1, .inl (k.1, 19, .inl sf)), (h2, .inl (k.1, 19, .inl lf))]) hE hK hP hS [0, 1, 2] rfl)) rfl rfl hl.1 rfl (lv_room (Nat.le_of_ble_eq_true rfl)) d_Cxt_afterOther_2 ⟨(Nat.le_of_ble_eq_true rfl), (Nat.le_of_ble_eq_true rfl)⟩) hP hS (fun r1 H locs hw hP hS => ?_)
  replace hw := hw.symm
  subst hw
  refine lv_topi (fun x2 ex2 => ?_)
  refine lv_istore_n (lv' := [(2, .int x2), (0, .ref h0), (1, .int x)]) hx hb d_Cxt_afterOther_5 rfl hl (by decide) rfl (fun ls hl => ?_)
  refine lv_iload_n hx hb d_Cxt_afterOther_6 rfl (lv_at hl 0 rfl) ?_
  refine kqi (va_runS (As := [.int x2]) (rest := []) ⟨hx, hb, hml, hown, hts⟩ (c_Cxt_turns l hl9 D k  x2 ) (cwS 1 hts (gS mw_38 mw_39 mw_23 mw_40) rfl rfl rfl (by decide +kernel) ⟨(Nat.le_of_ble_eq_true rfl), (Nat.le_of_ble_eq_true rfl)⟩) (kPreR (wc := []) hE hK hP hS [] rfl) rfl rfl hl.1 rfl (lv_room (Nat.le_of_ble_eq_true rfl)) d_Cxt_afterOther_7 ⟨(Nat.le_of_ble_eq_true rfl), (Nat.le_of_ble_eq_true rfl)⟩) hP hS (fun r3 H locs hw hP hS => ?_)
  replace hw := hw.symm
  subst hw
  refine lv_if_eq (tgt := 23) hx hb d_Cxt_afterOther_10 (by decide) (fun c4 => ?_) (fun c4 => ?_)
  · refine lv_aload_n hx hb d_Cxt_afterOther_23 rfl (lv_at hl 1 rfl) ?_
    refine lv_iload_n hx hb d_Cxt_afterOther_24 rfl (lv_at hl 2 rfl) ?_
    refine kqi (va_runV (As := [.int x]) (rest := []) ⟨hx, hb, hml, hown, hts⟩ (c_Cxt_likelyBitOf l hl9 D k h0 h1 h2 sf lf x ) (cwV 1 hts (gV mw_30 mw_31 mw_32 mw_23 mw_33) rfl rfl rfl (by decide +kernel) ⟨(Nat.le_of_ble_eq_true rfl), (Nat.le_of_ble_eq_true rfl)⟩) (kRecv (q := (R_Cxt, T_Cxt, 2)) (q0 := 0) (ci := 1) hK hP rfl rfl (kPreR (wc := [(h0, .inr (1, [.ref h1, .ref h2])), (h1, .inl (k.1, 19, .inl sf)), (h2, .inl (k.1, 19, .inl lf))]) hE hK hP hS [0, 1, 2] rfl)) rfl rfl hl.1 rfl (lv_room (Nat.le_of_ble_eq_true rfl)) d_Cxt_afterOther_25 ⟨(Nat.le_of_ble_eq_true rfl), (Nat.le_of_ble_eq_true rfl)⟩) hP hS (fun r5 H locs hw hP hS => ?_)
    replace hw := hw.symm
    subst hw
    refine lv_topi (fun x6 ex6 => ?_)
    refine lv_istore_n (lv' := [(3, .int x6), (2, .int x2), (0, .ref h0), (1, .int x)]) hx hb d_Cxt_afterOther_28 rfl hl (by decide) rfl (fun ls hl => ?_)
    refine lv_aload_n hx hb d_Cxt_afterOther_29 rfl (lv_at hl 2 rfl) ?_
    refine lv_iload_n hx hb d_Cxt_afterOther_30 rfl (lv_at hl 3 rfl) ?_
    refine va_getsN hx hb hE.zO hS hown (hE.nest (.fieldLinkNest R_Cxt 43 "LikelyBits" "OTHER_STATES" "[I" "LikelyBits") nw_2) (fun _ h9 => h9) d_Cxt_afterOther_31 ?_
    refine lv_iload_n hx hb d_Cxt_afterOther_34 rfl (lv_at hl 1 rfl) ?_
    refine kqi (va_runS (As := [.ref k.2.2.2.2.1, .int x2]) (rest := [.int x, .ref h0]) ⟨hx, hb, hml, hown, hts⟩ (c_Cxt_entryO l hl9 D k  x2 ) (cwS 2 hts (gS mw_21 mw_22 mw_23 mw_24) rfl rfl rfl (by decide +kernel) ⟨(Nat.le_of_ble_eq_true rfl), (Nat.le_of_ble_eq_true rfl)⟩) (kPreR (wc := []) hE hK hP hS [] rfl) rfl rfl hl.1 rfl (lv_room (Nat.le_of_ble_eq_true rfl)) d_Cxt_afterOther_35 ⟨(Nat.le_of_ble_eq_true rfl), (Nat.le_of_ble_eq_true rfl)⟩) hP hS (fun r7 H locs hw hP hS => ?_)
    replace hw := hw.symm
    subst hw
    refine lv_iload_n hx hb d_Cxt_afterOther_38 rfl (lv_at hl 0 rfl) ?_
    refine kcv (wc := [(h0, .inr (1, [.ref h1, .ref h2])), (h1, .inl (k.1, 19, .inl sf)), (h2, .inl (k.1, 19, .inl lf))]) (wr := []) (va_runV (As := [.int x, .int (ent 47 tfO x2), .int x6]) (rest := []) ⟨hx, hb, hml, hown, hts⟩ (c_Cxt_set l hl9 D k h0 h1 h2 H.size sf lf x (ent 47 tfO x2) x6 ) (cwV 3 hts (gV mw_34 mw_35 mw_36 mw_23 mw_37) rfl rfl rfl (by decide +kernel) ⟨(Nat.le_of_ble_eq_true rfl), (Nat.le_of_ble_eq_true rfl)⟩) (kRecv (q := (R_Cxt, T_Cxt, 2)) (q0 := 0) (ci := 1) hK hP rfl rfl (kPre (wc := [(h0, .inr (1, [.ref h1, .ref h2])), (h1, .inl (k.1, 19, .inl sf)), (h2, .inl (k.1, 19, .inl lf))]) hE hK hP hD hS hA [0, 1, 2] rfl (by decide))) rfl rfl hl.1 rfl (lv_room (Nat.le_of_ble_eq_true rfl)) d_Cxt_afterOther_39 ⟨(Nat.le_of_ble_eq_true rfl), (Nat.le_of_ble_eq_true rfl)⟩) hP hD hS hA [0, 1, 2] [] rfl rfl (by decide) (by decide) (fun zz uu H locs hw11 hz12 hP hD hS => ?_)
    obtain ⟨sf_8, lf_9⟩ := uu
    have hw11 : sf_8 = (cset sf lf x (ent 47 tfO x2) x6).1 ∧ lf_9 = (cset sf lf x (ent 47 tfO x2) x6).2 := hw11
    have hP : va_P D vwCl [(h0, .inr (1, [.ref h1, .ref h2])), (h1, .inl (k.1, 19, .inl sf_8)), (h2, .inl (k.1, 19, .inl lf_9))] H := hP
    have hD : va_D A [(h0, .inr (1, [.ref h1, .ref h2])), (h1, .inl (k.1, 19, .inl sf_8)), (h2, .inl (k.1, 19, .inl lf_9))] := hD
    exact krv (wo := wo_Cxt_afterOther k h0 h1 h2 sf lf x) hx hb hr hlk hP hD hS (sf_8, lf_9) () (by obtain ⟨rfl, rfl⟩ := hw11; subst ex6; subst ex2; simp [po_Cxt_afterOther, cOt, c4]) trivial [0, 1, 2] rfl (by decide) (Nat.le_of_ble_eq_true rfl) (Nat.le_of_ble_eq_true rfl) d_Cxt_afterOther_42
  · refine lv_iconst (v := 1) hx hb d_Cxt_afterOther_13 (by decide) ?_
    refine lv_aload_n hx hb d_Cxt_afterOther_14 rfl (lv_at hl 1 rfl) ?_
    refine lv_iload_n hx hb d_Cxt_afterOther_15 rfl (lv_at hl 2 rfl) ?_
    refine kqi (va_runV (As := [.int x]) (rest := [.int 1]) ⟨hx, hb, hml, hown, hts⟩ (c_Cxt_likelyBitOf l hl9 D k h0 h1 h2 sf lf x ) (cwV 1 hts (gV mw_30 mw_31 mw_32 mw_23 mw_33) rfl rfl rfl (by decide +kernel) ⟨(Nat.le_of_ble_eq_true rfl), (Nat.le_of_ble_eq_true rfl)⟩) (kRecv (q := (R_Cxt, T_Cxt, 2)) (q0 := 0) (ci := 1) hK hP rfl rfl (kPreR (wc := [(h0, .inr (1, [.ref h1, .ref h2])), (h1, .inl (k.1, 19, .inl sf)), (h2, .inl (k.1, 19, .inl lf))]) hE hK hP hS [0, 1, 2] rfl)) rfl rfl hl.1 rfl (lv_room (Nat.le_of_ble_eq_true rfl)) d_Cxt_afterOther_16 ⟨(Nat.le_of_ble_eq_true rfl), (Nat.le_of_ble_eq_true rfl)⟩) hP hS (fun r13 H locs hw hP hS => ?_)
    replace hw := hw.symm
    subst hw
    refine lv_isub hx hb d_Cxt_afterOther_19 ?_
    refine lv_goto (tgt := 28) hx hb d_Cxt_afterOther_20 (by decide) ?_
    refine lv_topi (fun x14 ex14 => ?_)
    refine lv_istore_n (lv' := [(3, .int x14), (2, .int x2), (0, .ref h0), (1, .int x)]) hx hb d_Cxt_afterOther_28 rfl hl (by decide) rfl (fun ls hl => ?_)
    refine lv_aload_n hx hb d_Cxt_afterOther_29 rfl (lv_at hl 2 rfl) ?_
    refine lv_iload_n hx hb d_Cxt_afterOther_30 rfl (lv_at hl 3 rfl) ?_
    refine va_getsN hx hb hE.zO hS hown (hE.nest (.fieldLinkNest R_Cxt 43 "LikelyBits" "OTHER_STATES" "[I" "LikelyBits") nw_2) (fun _ h9 => h9) d_Cxt_afterOther_31 ?_
    refine lv_iload_n hx hb d_Cxt_afterOther_34 rfl (lv_at hl 1 rfl) ?_
    refine kqi (va_runS (As := [.ref k.2.2.2.2.1, .int x2]) (rest := [.int x, .ref h0]) ⟨hx, hb, hml, hown, hts⟩ (c_Cxt_entryO l hl9 D k  x2 ) (cwS 2 hts (gS mw_21 mw_22 mw_23 mw_24) rfl rfl rfl (by decide +kernel) ⟨(Nat.le_of_ble_eq_true rfl), (Nat.le_of_ble_eq_true rfl)⟩) (kPreR (wc := []) hE hK hP hS [] rfl) rfl rfl hl.1 rfl (lv_room (Nat.le_of_ble_eq_true rfl)) d_Cxt_afterOther_35 ⟨(Nat.le_of_ble_eq_true rfl), (Nat.le_of_ble_eq_true rfl)⟩) hP hS (fun r15 H locs hw hP hS => ?_)
    replace hw := hw.symm
    subst hw
    refine lv_iload_n hx hb d_Cxt_afterOther_38 rfl (lv_at hl 0 rfl) ?_
    refine kcv (wc := [(h0, .inr (1, [.ref h1, .ref h2])), (h1, .inl (k.1, 19, .inl sf)), (h2, .inl (k.1, 19, .inl lf))]) (wr := []) (va_runV (As := [.int x, .int (ent 47 tfO x2), .int x14]) (rest := []) ⟨hx, hb, hml, hown, hts⟩ (c_Cxt_set l hl9 D k h0 h1 h2 H.size sf lf x (ent 47 tfO x2) x14 ) (cwV 3 hts (gV mw_34 mw_35 mw_36 mw_23 mw_37) rfl rfl rfl (by decide +kernel) ⟨(Nat.le_of_ble_eq_true rfl), (Nat.le_of_ble_eq_true rfl)⟩) (kRecv (q := (R_Cxt, T_Cxt, 2)) (q0 := 0) (ci := 1) hK hP rfl rfl (kPre (wc := [(h0, .inr (1, [.ref h1, .ref h2])), (h1, .inl (k.1, 19, .inl sf)), (h2, .inl (k.1, 19, .inl lf))]) hE hK hP hD hS hA [0, 1, 2] rfl (by decide))) rfl rfl hl.1 rfl (lv_room (Nat.le_of_ble_eq_true rfl)) d_Cxt_afterOther_39 ⟨(Nat.le_of_ble_eq_true rfl), (Nat.le_of_ble_eq_true rfl)⟩) hP hD hS hA [0, 1, 2] [] rfl rfl (by decide) (by decide) (fun zz uu H locs hw19 hz20 hP hD hS => ?_)
    obtain ⟨sf_16, lf_17⟩ := uu
    have hw19 : sf_16 = (cset sf lf x (ent 47 tfO x2) x14).1 ∧ lf_17 = (cset sf lf x (ent 47 tfO x2) x14).2 := hw19
    have hP : va_P D vwCl [(h0, .inr (1, [.ref h1, .ref h2])), (h1, .inl (k.1, 19, .inl sf_16)), (h2, .inl (k.1, 19, .inl lf_17))] H := hP
    have hD : va_D A [(h0, .inr (1, [.ref h1, .ref h2])), (h1, .inl (k.1, 19, .inl sf_16)), (h2, .inl (k.1, 19, .inl lf_17))] := hD
    exact krv (wo := wo_Cxt_afterOther k h0 h1 h2 sf lf x) hx hb hr hlk hP hD hS (sf_16, lf_17) () (by obtain ⟨rfl, rfl⟩ := hw19; subst ex14; subst ex2; simp [po_Cxt_afterOther, cOt, c4]) trivial [0, 1, 2] rfl (by decide) (Nat.le_of_ble_eq_true rfl) (Nat.le_of_ble_eq_true rfl) d_Cxt_afterOther_42

def wo_Cxt_init (k : gK) (h0 : Nat) (zz : Nat × Nat) (uu : Unit) : va_W := match zz, uu with
  | (q1, q2), _ => [(h0, .inr (1, [.ref q1, .ref q2])), (q1, .inl (k.1, 19, .inl (fun _ => 0))), (q2, .inl (k.1, 19, .inl (fun _ => 0)))]
def ex_Cxt_init (k : gK) (h0 : Nat) (zz : Nat × Nat) (uu : Unit) : Prop := match zz, uu with
  | (q1, q2), _ => True
def po_Cxt_init (k : gK) (h0 : Nat) (uu : Unit) : Prop := match uu with
  | _ => True
def qc_Cxt_init (D : va_G) (k : gK) (h0 : Nat) (A : Nat → Prop) : Array Value → State → Outcome → State → Prop := va_Qv (po_Cxt_init k h0) (fun uu t => ∃ zz, ex_Cxt_init k h0 zz uu ∧ GP D A (wo_Cxt_init k h0 zz uu) t) A
set_option maxHeartbeats 1000000 in
set_option maxRecDepth 100000 in
theorem c_Cxt_init (l : Launch) (hl9 : l.stackTraces = false) (D : va_G) (k : gK) (h0 : Nat) (zsz : Nat)  : Met l y_Cxt_init (.code y_Cxt_init b_Cxt_init 1 none :: AW) ({ frames := 1, cells := 2, slots := 38, locals := 22 }) (va_Pc [.ref h0] (GG D k [(h0, .inr (1, [.null, .null]))] zsz)) (qc_Cxt_init D k h0 (va_A [(h0, .inr (1, [.null, .null]))] zsz)) 2 38 (va_A [(h0, .inr (1, [.null, .null]))] zsz) := by
  refine kMet (ws := [(h0, .inr (1, [.null, .null]))]) (Qc := qc_Cxt_init D k h0) (by decide) (Nat.le_of_ble_eq_true rfl) (fun p e s m below meth c ls A H Cc hP hD hA hS hl => ?_)
  obtain ⟨hx, hb, hml, hr, hlk, hown, hts, hK, hE, hin⟩ := Cc
  have hl : lv_has ls 1 [(0, .ref h0)] := hl
  refine lv_aload_n hx hb d_Cxt_init_0 rfl (lv_at hl 0 rfl) ?_
  refine W.objInit hx hb hown (hts (.methodLink R_Cxt 3 objectInit) mw_41) (hts (.instanceMethod objectInit) mw_3) (hts (.code objectInit ⟨#[0xb1]⟩ 1 none) mw_4) rfl (by rw [hml]; exact hl.1) rfl d_Cxt_init_1 (Nat.le_of_ble_eq_true rfl) (Nat.le_of_ble_eq_true rfl) ?_
  refine W.eq (g2 := F0 m 4 ls []) rfl ?_
  refine lv_aload_n hx hb d_Cxt_init_4 rfl (lv_at hl 0 rfl) ?_
  refine lv_bipush (v := 19) hx hb d_Cxt_init_5 (by decide) ?_
  refine va_newa (atype := .int) (ty := .int) (N' := 19) (a0 := (19, .inl (fun _ => 0))) hx hb (hts (.arrayClass .int) mw_5) rfl hK hP hD hS hA (ha_int 19) (by decide +kernel) (by decide +kernel) (by decide +kernel) (by first | omega | (dsimp only; omega)) (by first | omega | (dsimp only; omega)) d_Cxt_init_7 (fun q1 cA H hK1 hP hD hS => ?_)
  have ecA := newa_int hK1
  subst ecA
  have hP : va_P D vwCl [(h0, .inr (1, [.null, .null])), (q1, .inl (k.1, 19, .inl (fun _ => 0)))] H := hP
  have hD : va_D A [(h0, .inr (1, [.null, .null])), (q1, .inl (k.1, 19, .inl (fun _ => 0)))] := hD
  refine va_putF (D := D) (ci := 1) (v := .ref q1) (ty := .array .int) (C := R_Cxt) (T := T_Cxt) (N := 2) hx hb hts inw_Cxt ty_Cxt tyok_Cxt nm_Cxt hown hK hP hD hS 0 rfl rfl 0 (by decide) (hts (.fieldLink R_Cxt 9 "LikelyBits$Contexts" "states" "[I") mw_20) (fun _ h9 => h9) rfl hin rfl (by decide +kernel) rfl rfl (Nat.le_of_ble_eq_true rfl) d_Cxt_init_9 (fun H locs hP hD hS => ?_)
  have hP : va_P D vwCl [(h0, .inr (1, [.ref q1, .null])), (q1, .inl (k.1, 19, .inl (fun _ => 0)))] H := hP
  have hD : va_D A [(h0, .inr (1, [.ref q1, .null])), (q1, .inl (k.1, 19, .inl (fun _ => 0)))] := hD
  refine lv_aload_n hx hb d_Cxt_init_12 rfl (lv_at hl 0 rfl) ?_
  refine lv_bipush (v := 19) hx hb d_Cxt_init_13 (by decide) ?_
  refine va_newa (atype := .int) (ty := .int) (N' := 19) (a0 := (19, .inl (fun _ => 0))) hx hb (hts (.arrayClass .int) mw_5) rfl hK hP hD hS hA (ha_int 19) (by decide +kernel) (by decide +kernel) (by decide +kernel) (by first | omega | (dsimp only; omega)) (by first | omega | (dsimp only; omega)) d_Cxt_init_15 (fun q2 cA H hK1 hP hD hS => ?_)
  have ecA := newa_int hK1
  subst ecA
  have hP : va_P D vwCl [(h0, .inr (1, [.ref q1, .null])), (q1, .inl (k.1, 19, .inl (fun _ => 0))), (q2, .inl (k.1, 19, .inl (fun _ => 0)))] H := hP
  have hD : va_D A [(h0, .inr (1, [.ref q1, .null])), (q1, .inl (k.1, 19, .inl (fun _ => 0))), (q2, .inl (k.1, 19, .inl (fun _ => 0)))] := hD
  refine va_putF (D := D) (ci := 1) (v := .ref q2) (ty := .array .int) (C := R_Cxt) (T := T_Cxt) (N := 2) hx hb hts inw_Cxt ty_Cxt tyok_Cxt nm_Cxt hown hK hP hD hS 0 rfl rfl 1 (by decide) (hts (.fieldLink R_Cxt 15 "LikelyBits$Contexts" "likelyBits" "[I") mw_25) (fun _ h9 => h9) rfl hin rfl (by decide +kernel) rfl rfl (Nat.le_of_ble_eq_true rfl) d_Cxt_init_17 (fun H locs hP hD hS => ?_)
  have hP : va_P D vwCl [(h0, .inr (1, [.ref q1, .ref q2])), (q1, .inl (k.1, 19, .inl (fun _ => 0))), (q2, .inl (k.1, 19, .inl (fun _ => 0)))] H := hP
  have hD : va_D A [(h0, .inr (1, [.ref q1, .ref q2])), (q1, .inl (k.1, 19, .inl (fun _ => 0))), (q2, .inl (k.1, 19, .inl (fun _ => 0)))] := hD
  exact krv (wo := wo_Cxt_init k h0) hx hb hr hlk hP hD hS () (q1, q2) trivial trivial [0, 1, 2] rfl (by decide) (by first | omega | (dsimp only; omega)) (by first | omega | (dsimp only; omega)) d_Cxt_init_20
end
section
set_option maxRecDepth 20000 in
theorem mw_42 : (Cond.methodLink R_Seg 3 objectInit) ∈ AW := inAW (List.mem_append_right _ (show _ ∈ tables_1_1 ++ (tables_1_2 ++ (tables_1_3 ++ tables_1_4)) from (List.mem_append_left _ (List.mem_of_getElem? (i := 61) rfl)))) rfl
set_option maxRecDepth 20000 in
theorem mw_43 : (Cond.fieldLink R_Seg 9 "LikelyBits$Segment" "row" "LLikelyBits$Row;") ∈ AW := inAW (List.mem_append_right _ (show _ ∈ tables_1_1 ++ (tables_1_2 ++ (tables_1_3 ++ tables_1_4)) from (List.mem_append_left _ (List.mem_of_getElem? (i := 62) rfl)))) rfl
set_option maxRecDepth 20000 in
theorem mw_44 : (Cond.methodLink R_Seg 15 y_Row_count) ∈ AW := inAW (List.mem_append_right _ (show _ ∈ tables_1_1 ++ (tables_1_2 ++ (tables_1_3 ++ tables_1_4)) from (List.mem_append_right _ (List.mem_append_left _ (List.mem_of_getElem? (i := 202) rfl))))) rfl
set_option maxRecDepth 20000 in
theorem mw_45 : (Cond.instanceMethod y_Row_count) ∈ AW := inAW (List.mem_append_right _ (show _ ∈ tables_1_1 ++ (tables_1_2 ++ (tables_1_3 ++ tables_1_4)) from (List.mem_append_right _ (List.mem_append_left _ (List.mem_of_getElem? (i := 82) rfl))))) rfl
set_option maxRecDepth 20000 in
theorem mw_46 : (Cond.selects R_Row y_Row_count y_Row_count) ∈ AW := inAW (List.mem_append_right _ (show _ ∈ tables_1_1 ++ (tables_1_2 ++ (tables_1_3 ++ tables_1_4)) from (List.mem_append_right _ (List.mem_append_left _ (List.mem_of_getElem? (i := 83) rfl))))) rfl
set_option maxRecDepth 20000 in
theorem mw_47 : (Cond.initialized R_Row) ∈ AW := inAW (List.mem_append_right _ (show _ ∈ tables_1_1 ++ (tables_1_2 ++ (tables_1_3 ++ tables_1_4)) from (List.mem_append_left _ (List.mem_of_getElem? (i := 2) rfl)))) rfl
set_option maxRecDepth 20000 in
theorem mw_48 : (Cond.code y_Row_count b_Row_count 1 (some .int)) ∈ AW := inAW (List.mem_append_right _ (show _ ∈ tables_1_1 ++ (tables_1_2 ++ (tables_1_3 ++ tables_1_4)) from (List.mem_append_right _ (List.mem_append_left _ (List.mem_of_getElem? (i := 84) rfl))))) rfl
set_option maxRecDepth 20000 in
theorem mw_49 : (Cond.fieldLink R_Seg 21 "LikelyBits$Segment" "start" "I") ∈ AW := inAW (List.mem_append_right _ (show _ ∈ tables_1_1 ++ (tables_1_2 ++ (tables_1_3 ++ tables_1_4)) from (List.mem_append_left _ (List.mem_of_getElem? (i := 63) rfl)))) rfl
set_option maxRecDepth 20000 in
theorem mw_50 : (Cond.methodLink R_Seg 25 y_Seg_length) ∈ AW := inAW (List.mem_append_right _ (show _ ∈ tables_1_1 ++ (tables_1_2 ++ (tables_1_3 ++ tables_1_4)) from (List.mem_append_right _ (List.mem_append_left _ (List.mem_of_getElem? (i := 235) rfl))))) rfl
set_option maxRecDepth 20000 in
theorem mw_51 : (Cond.instanceMethod y_Seg_length) ∈ AW := inAW (List.mem_append_right _ (show _ ∈ tables_1_1 ++ (tables_1_2 ++ (tables_1_3 ++ tables_1_4)) from (List.mem_append_right _ (List.mem_append_left _ (List.mem_of_getElem? (i := 236) rfl))))) rfl
set_option maxRecDepth 20000 in
theorem mw_52 : (Cond.selects R_Seg y_Seg_length y_Seg_length) ∈ AW := inAW (List.mem_append_right _ (show _ ∈ tables_1_1 ++ (tables_1_2 ++ (tables_1_3 ++ tables_1_4)) from (List.mem_append_right _ (List.mem_append_left _ (List.mem_of_getElem? (i := 237) rfl))))) rfl
set_option maxRecDepth 20000 in
theorem mw_53 : (Cond.initialized R_Seg) ∈ AW := inAW (List.mem_append_right _ (show _ ∈ tables_1_1 ++ (tables_1_2 ++ (tables_1_3 ++ tables_1_4)) from (List.mem_append_left _ (List.mem_of_getElem? (i := 4) rfl)))) rfl
set_option maxRecDepth 20000 in
theorem mw_54 : (Cond.code y_Seg_length b_Seg_length 1 (some .int)) ∈ AW := inAW (List.mem_append_right _ (show _ ∈ tables_1_1 ++ (tables_1_2 ++ (tables_1_3 ++ tables_1_4)) from (List.mem_append_right _ (List.mem_append_left _ (List.mem_of_getElem? (i := 238) rfl))))) rfl
set_option maxRecDepth 20000 in
theorem mw_55 : (Cond.methodLink R_Seg 28 y_Row_byteAt) ∈ AW := inAW (List.mem_append_right _ (show _ ∈ tables_1_1 ++ (tables_1_2 ++ (tables_1_3 ++ tables_1_4)) from (List.mem_append_right _ (List.mem_append_left _ (List.mem_of_getElem? (i := 239) rfl))))) rfl
set_option maxRecDepth 20000 in
theorem mw_56 : (Cond.instanceMethod y_Row_byteAt) ∈ AW := inAW (List.mem_append_right _ (show _ ∈ tables_1_1 ++ (tables_1_2 ++ (tables_1_3 ++ tables_1_4)) from (List.mem_append_right _ (List.mem_append_left _ (List.mem_of_getElem? (i := 149) rfl))))) rfl
set_option maxRecDepth 20000 in
theorem mw_57 : (Cond.selects R_Row y_Row_byteAt y_Row_byteAt) ∈ AW := inAW (List.mem_append_right _ (show _ ∈ tables_1_1 ++ (tables_1_2 ++ (tables_1_3 ++ tables_1_4)) from (List.mem_append_right _ (List.mem_append_left _ (List.mem_of_getElem? (i := 150) rfl))))) rfl
set_option maxRecDepth 20000 in
theorem mw_58 : (Cond.code y_Row_byteAt b_Row_byteAt 2 (some .int)) ∈ AW := inAW (List.mem_append_right _ (show _ ∈ tables_1_1 ++ (tables_1_2 ++ (tables_1_3 ++ tables_1_4)) from (List.mem_append_right _ (List.mem_append_left _ (List.mem_of_getElem? (i := 151) rfl))))) rfl
set_option maxRecDepth 20000 in
theorem mw_59 : (Cond.methodLink R_Seg 32 y_Row_change) ∈ AW := inAW (List.mem_append_right _ (show _ ∈ tables_1_1 ++ (tables_1_2 ++ (tables_1_3 ++ tables_1_4)) from (List.mem_append_right _ (List.mem_append_right _ (List.mem_append_left _ (List.mem_of_getElem? (i := 9) rfl)))))) rfl
set_option maxRecDepth 20000 in
theorem mw_60 : (Cond.instanceMethod y_Row_change) ∈ AW := inAW (List.mem_append_right _ (show _ ∈ tables_1_1 ++ (tables_1_2 ++ (tables_1_3 ++ tables_1_4)) from (List.mem_append_right _ (List.mem_append_right _ (List.mem_append_left _ (List.mem_of_getElem? (i := 10) rfl)))))) rfl
set_option maxRecDepth 20000 in
theorem mw_61 : (Cond.selects R_Row y_Row_change y_Row_change) ∈ AW := inAW (List.mem_append_right _ (show _ ∈ tables_1_1 ++ (tables_1_2 ++ (tables_1_3 ++ tables_1_4)) from (List.mem_append_right _ (List.mem_append_right _ (List.mem_append_left _ (List.mem_of_getElem? (i := 11) rfl)))))) rfl
set_option maxRecDepth 20000 in
theorem mw_62 : (Cond.code y_Row_change b_Row_change 3 none) ∈ AW := inAW (List.mem_append_right _ (show _ ∈ tables_1_1 ++ (tables_1_2 ++ (tables_1_3 ++ tables_1_4)) from (List.mem_append_right _ (List.mem_append_right _ (List.mem_append_left _ (List.mem_of_getElem? (i := 12) rfl)))))) rfl
set_option maxRecDepth 20000 in
theorem mw_63 : (Cond.methodLink R_Seg 36 y_Row_append) ∈ AW := inAW (List.mem_append_right _ (show _ ∈ tables_1_1 ++ (tables_1_2 ++ (tables_1_3 ++ tables_1_4)) from (List.mem_append_right _ (List.mem_append_right _ (List.mem_append_left _ (List.mem_of_getElem? (i := 4) rfl)))))) rfl
set_option maxRecDepth 20000 in
theorem mw_64 : (Cond.instanceMethod y_Row_append) ∈ AW := inAW (List.mem_append_right _ (show _ ∈ tables_1_1 ++ (tables_1_2 ++ (tables_1_3 ++ tables_1_4)) from (List.mem_append_right _ (List.mem_append_left _ (List.mem_of_getElem? (i := 103) rfl))))) rfl
set_option maxRecDepth 20000 in
theorem mw_65 : (Cond.selects R_Row y_Row_append y_Row_append) ∈ AW := inAW (List.mem_append_right _ (show _ ∈ tables_1_1 ++ (tables_1_2 ++ (tables_1_3 ++ tables_1_4)) from (List.mem_append_right _ (List.mem_append_left _ (List.mem_of_getElem? (i := 104) rfl))))) rfl
set_option maxRecDepth 20000 in
theorem mw_66 : (Cond.code y_Row_append b_Row_append 2 none) ∈ AW := inAW (List.mem_append_right _ (show _ ∈ tables_1_1 ++ (tables_1_2 ++ (tables_1_3 ++ tables_1_4)) from (List.mem_append_right _ (List.mem_append_left _ (List.mem_of_getElem? (i := 105) rfl))))) rfl
set_option maxRecDepth 20000 in
theorem mw_67 : (Cond.methodLink R_Seg 40 y_Seg_last) ∈ AW := inAW (List.mem_append_right _ (show _ ∈ tables_1_1 ++ (tables_1_2 ++ (tables_1_3 ++ tables_1_4)) from (List.mem_append_right _ (List.mem_append_right _ (List.mem_append_left _ (List.mem_of_getElem? (i := 100) rfl)))))) rfl
set_option maxRecDepth 20000 in
theorem mw_68 : (Cond.instanceMethod y_Seg_last) ∈ AW := inAW (List.mem_append_right _ (show _ ∈ tables_1_1 ++ (tables_1_2 ++ (tables_1_3 ++ tables_1_4)) from (List.mem_append_right _ (List.mem_append_left _ (List.mem_of_getElem? (i := 232) rfl))))) rfl
set_option maxRecDepth 20000 in
theorem mw_69 : (Cond.selects R_Seg y_Seg_last y_Seg_last) ∈ AW := inAW (List.mem_append_right _ (show _ ∈ tables_1_1 ++ (tables_1_2 ++ (tables_1_3 ++ tables_1_4)) from (List.mem_append_right _ (List.mem_append_left _ (List.mem_of_getElem? (i := 233) rfl))))) rfl
set_option maxRecDepth 20000 in
theorem mw_70 : (Cond.code y_Seg_last b_Seg_last 1 (some .int)) ∈ AW := inAW (List.mem_append_right _ (show _ ∈ tables_1_1 ++ (tables_1_2 ++ (tables_1_3 ++ tables_1_4)) from (List.mem_append_right _ (List.mem_append_left _ (List.mem_of_getElem? (i := 234) rfl))))) rfl
set_option maxRecDepth 20000 in
theorem mw_71 : (Cond.methodLink R_Seg 43 y_Row_dropLast) ∈ AW := inAW (List.mem_append_right _ (show _ ∈ tables_1_1 ++ (tables_1_2 ++ (tables_1_3 ++ tables_1_4)) from (List.mem_append_right _ (List.mem_append_right _ (List.mem_append_left _ (List.mem_of_getElem? (i := 101) rfl)))))) rfl
set_option maxRecDepth 20000 in
theorem mw_72 : (Cond.instanceMethod y_Row_dropLast) ∈ AW := inAW (List.mem_append_right _ (show _ ∈ tables_1_1 ++ (tables_1_2 ++ (tables_1_3 ++ tables_1_4)) from (List.mem_append_right _ (List.mem_append_right _ (List.mem_append_left _ (List.mem_of_getElem? (i := 102) rfl)))))) rfl
set_option maxRecDepth 20000 in
theorem mw_73 : (Cond.selects R_Row y_Row_dropLast y_Row_dropLast) ∈ AW := inAW (List.mem_append_right _ (show _ ∈ tables_1_1 ++ (tables_1_2 ++ (tables_1_3 ++ tables_1_4)) from (List.mem_append_right _ (List.mem_append_right _ (List.mem_append_left _ (List.mem_of_getElem? (i := 103) rfl)))))) rfl
set_option maxRecDepth 20000 in
theorem mw_74 : (Cond.code y_Row_dropLast b_Row_dropLast 1 none) ∈ AW := inAW (List.mem_append_right _ (show _ ∈ tables_1_1 ++ (tables_1_2 ++ (tables_1_3 ++ tables_1_4)) from (List.mem_append_right _ (List.mem_append_right _ (List.mem_append_left _ (List.mem_of_getElem? (i := 104) rfl)))))) rfl
def wo_Seg_init (k : gK) (h0 : Nat) (h1 : Nat) (zz : Unit) (uu : Unit) : va_W := match zz, uu with
  | _, _ => [(h0, .inr (2, [.ref h1, .int 0]))]
def ex_Seg_init (k : gK) (h0 : Nat) (h1 : Nat) (zz : Unit) (uu : Unit) : Prop := match zz, uu with
  | _, _ => True
def po_Seg_init (k : gK) (h0 : Nat) (h1 : Nat) (uu : Unit) : Prop := match uu with
  | _ => True
def qc_Seg_init (D : va_G) (k : gK) (h0 : Nat) (h1 : Nat) (A : Nat → Prop) : Array Value → State → Outcome → State → Prop := va_Qv (po_Seg_init k h0 h1) (fun uu t => ∃ zz, ex_Seg_init k h0 h1 zz uu ∧ GP D A (wo_Seg_init k h0 h1 zz uu) t) A
set_option maxHeartbeats 1000000 in
set_option maxRecDepth 100000 in
theorem c_Seg_init (l : Launch) (hl9 : l.stackTraces = false) (D : va_G) (k : gK) (h0 : Nat) (zsz : Nat) (h1 : Nat) : Met l y_Seg_init (.code y_Seg_init b_Seg_init 2 none :: AW) ({ frames := 1, cells := 0, slots := 0, locals := 22 }) (va_Pc [.ref h0, .ref h1] (GG D k [(h0, .inr (2, [.null, .int 0]))] zsz)) (qc_Seg_init D k h0 h1 (va_A [(h0, .inr (2, [.null, .int 0]))] zsz)) 0 0 (va_A [(h0, .inr (2, [.null, .int 0]))] zsz) := by
  refine kMet (ws := [(h0, .inr (2, [.null, .int 0]))]) (Qc := qc_Seg_init D k h0 h1) (by decide) (Nat.le_of_ble_eq_true rfl) (fun p e s m below meth c ls A H Cc hP hD hA hS hl => ?_)
  obtain ⟨hx, hb, hml, hr, hlk, hown, hts, hK, hE, hin⟩ := Cc
  have hl : lv_has ls 2 [(0, .ref h0), (1, .ref h1)] := hl
  refine lv_aload_n hx hb d_Seg_init_0 rfl (lv_at hl 0 rfl) ?_
  refine W.objInit hx hb hown (hts (.methodLink R_Seg 3 objectInit) mw_42) (hts (.instanceMethod objectInit) mw_3) (hts (.code objectInit ⟨#[0xb1]⟩ 1 none) mw_4) rfl (by rw [hml]; exact hl.1) rfl d_Seg_init_1 (Nat.le_of_ble_eq_true rfl) (Nat.le_of_ble_eq_true rfl) ?_
  refine W.eq (g2 := F0 m 4 ls []) rfl ?_
  refine lv_aload_n hx hb d_Seg_init_4 rfl (lv_at hl 0 rfl) ?_
  refine lv_aload_n hx hb d_Seg_init_5 rfl (lv_at hl 1 rfl) ?_
  refine va_putF (D := D) (ci := 2) (v := .ref h1) (ty := .object "LikelyBits$Row") (C := R_Seg) (T := T_Seg) (N := 2) hx hb hts inw_Seg ty_Seg tyok_Seg nm_Seg hown hK hP hD hS 0 rfl rfl 0 (by decide) (hts (.fieldLink R_Seg 9 "LikelyBits$Segment" "row" "LLikelyBits$Row;") mw_43) (fun _ h9 => h9) rfl hin rfl (by decide +kernel) rfl rfl (Nat.le_of_ble_eq_true rfl) d_Seg_init_6 (fun H locs hP hD hS => ?_)
  have hP : va_P D vwCl [(h0, .inr (2, [.ref h1, .int 0]))] H := hP
  have hD : va_D A [(h0, .inr (2, [.ref h1, .int 0]))] := hD
  exact krv (wo := wo_Seg_init k h0 h1) hx hb hr hlk hP hD hS () () trivial trivial [0] rfl (by decide) (Nat.le_of_ble_eq_true rfl) (Nat.le_of_ble_eq_true rfl) d_Seg_init_9

def wo_Seg_begin (k : gK) (h0 h1 : Nat) (a : Int32) (h2 : Nat) (u : Int32) (zz : Unit) (uu : Unit) : va_W := match zz, uu with
  | _, _ => [(h0, .inr (2, [.ref h1, .int u])), (h1, .inr (0, [.ref h2, .int u]))]
def ex_Seg_begin (k : gK) (h0 h1 : Nat) (a : Int32) (h2 : Nat) (u : Int32) (zz : Unit) (uu : Unit) : Prop := match zz, uu with
  | _, _ => True
def po_Seg_begin (k : gK) (h0 h1 : Nat) (a : Int32) (h2 : Nat) (u : Int32) (uu : Unit) : Prop := match uu with
  | _ => True
def qc_Seg_begin (D : va_G) (k : gK) (h0 h1 : Nat) (a : Int32) (h2 : Nat) (u : Int32) (A : Nat → Prop) : Array Value → State → Outcome → State → Prop := va_Qv (po_Seg_begin k h0 h1 a h2 u) (fun uu t => ∃ zz, ex_Seg_begin k h0 h1 a h2 u zz uu ∧ GP D A (wo_Seg_begin k h0 h1 a h2 u zz uu) t) A
set_option maxHeartbeats 1000000 in
set_option maxRecDepth 100000 in
theorem c_Seg_begin (l : Launch) (hl9 : l.stackTraces = false) (D : va_G) (k : gK) (h0 h1 : Nat) (zsz : Nat) (a : Int32) (h2 : Nat) (u : Int32) : Met l y_Seg_begin (.code y_Seg_begin b_Seg_begin 1 none :: AW) ({ frames := 1, cells := 0, slots := 0, locals := 20 }) (va_Pc [.ref h0] (GG D k [(h0, .inr (2, [.ref h1, .int a])), (h1, .inr (0, [.ref h2, .int u]))] zsz)) (qc_Seg_begin D k h0 h1 a h2 u (va_A [(h0, .inr (2, [.ref h1, .int a])), (h1, .inr (0, [.ref h2, .int u]))] zsz)) 0 0 (va_A [(h0, .inr (2, [.ref h1, .int a])), (h1, .inr (0, [.ref h2, .int u]))] zsz) := by
  refine kMet (ws := [(h0, .inr (2, [.ref h1, .int a])), (h1, .inr (0, [.ref h2, .int u]))]) (Qc := qc_Seg_begin D k h0 h1 a h2 u) (by decide) (Nat.le_of_ble_eq_true rfl) (fun p e s m below meth c ls A H Cc hP hD hA hS hl => ?_)
  obtain ⟨hx, hb, hml, hr, hlk, hown, hts, hK, hE, hin⟩ := Cc
  have hl : lv_has ls 1 [(0, .ref h0)] := hl
  refine lv_aload_n hx hb d_Seg_begin_0 rfl (lv_at hl 0 rfl) ?_
  refine lv_aload_n hx hb d_Seg_begin_1 rfl (lv_at hl 0 rfl) ?_
  refine va_get (D := D) (ci := 2) (v := .ref h1) (C := R_Seg) (T := T_Seg) (N := 2) hx hb hts inw_Seg hown hK hP 0 rfl rfl 0 (by decide) (hts (.fieldLink R_Seg 9 "LikelyBits$Segment" "row" "LLikelyBits$Row;") mw_43) (fun _ h9 => h9) rfl d_Seg_begin_2 ?_
  refine kqi (va_runV (As := []) (rest := [.ref h0]) ⟨hx, hb, hml, hown, hts⟩ (c_Row_count l hl9 D k h1 h2 u ) (cwV 0 hts (gV mw_44 mw_45 mw_46 mw_47 mw_48) rfl rfl rfl (by decide +kernel) ⟨(Nat.le_of_ble_eq_true rfl), (Nat.le_of_ble_eq_true rfl)⟩) (kRecv (q := (R_Row, T_Row, 2)) (q0 := 1) (ci := 0) hK hP rfl rfl (kPreR (wc := [(h1, .inr (0, [.ref h2, .int u]))]) hE hK hP hS [1] rfl)) rfl rfl hl.1 rfl (lv_room (Nat.le_of_ble_eq_true rfl)) d_Seg_begin_5 ⟨(Nat.le_of_ble_eq_true rfl), (Nat.le_of_ble_eq_true rfl)⟩) hP hS (fun r1 H locs hw hP hS => ?_)
  replace hw := hw.symm
  subst hw
  refine va_put (D := D) (ci := 2) (v := .int u) (ty := .int) (C := R_Seg) (T := T_Seg) (N := 2) hx hb hts inw_Seg ty_Seg tyok_Seg nm_Seg hown hK hP hD hS 0 rfl rfl 1 (by decide) (hts (.fieldLink R_Seg 21 "LikelyBits$Segment" "start" "I") mw_49) (fun _ h9 => h9) rfl (by decide +kernel) rfl rfl (Nat.le_of_ble_eq_true rfl) d_Seg_begin_8 (fun H locs hP hD hS => ?_)
  have hP : va_P D vwCl [(h0, .inr (2, [.ref h1, .int u])), (h1, .inr (0, [.ref h2, .int u]))] H := hP
  have hD : va_D A [(h0, .inr (2, [.ref h1, .int u])), (h1, .inr (0, [.ref h2, .int u]))] := hD
  exact krv (wo := wo_Seg_begin k h0 h1 a h2 u) hx hb hr hlk hP hD hS () () trivial trivial [0, 1] rfl (by decide) (Nat.le_of_ble_eq_true rfl) (Nat.le_of_ble_eq_true rfl) d_Seg_begin_11

set_option maxHeartbeats 1000000 in
set_option maxRecDepth 100000 in
theorem c_Seg_length (l : Launch) (hl9 : l.stackTraces = false) (D : va_G) (k : gK) (h0 h1 : Nat) (a : Int32) (h2 : Nat) (u : Int32) : Met l y_Seg_length (.code y_Seg_length b_Seg_length 1 (some .int) :: AW) { frames := 1, cells := 0, slots := 0, locals := 20 } (va_Pc [.ref h0] (GR D k [(h0, .inr (2, [.ref h1, .int a])), (h1, .inr (0, [.ref h2, .int u]))])) (va_Qi (fun r (_ : Unit) => r = u - a) (fun _ _ => True) (fun _ => False)) 0 0 (fun _ => False) := by
  refine kMetR (ws := [(h0, .inr (2, [.ref h1, .int a])), (h1, .inr (0, [.ref h2, .int u]))]) (by decide) (Nat.le_of_ble_eq_true rfl) (fun p e s m below meth c ls H Cc hP hS hl => ?_)
  obtain ⟨hx, hb, hml, hr, hlk, hown, hts, hK, hE, hin⟩ := Cc
  have hl : lv_has ls 1 [(0, .ref h0)] := hl
  refine lv_aload_n hx hb d_Seg_length_0 rfl (lv_at hl 0 rfl) ?_
  refine va_get (D := D) (ci := 2) (v := .ref h1) (C := R_Seg) (T := T_Seg) (N := 2) hx hb hts inw_Seg hown hK hP 0 rfl rfl 0 (by decide) (hts (.fieldLink R_Seg 9 "LikelyBits$Segment" "row" "LLikelyBits$Row;") mw_43) (fun _ h9 => h9) rfl d_Seg_length_1 ?_
  refine kqi (va_runV (As := []) (rest := []) ⟨hx, hb, hml, hown, hts⟩ (c_Row_count l hl9 D k h1 h2 u ) (cwV 0 hts (gV mw_44 mw_45 mw_46 mw_47 mw_48) rfl rfl rfl (by decide +kernel) ⟨(Nat.le_of_ble_eq_true rfl), (Nat.le_of_ble_eq_true rfl)⟩) (kRecv (q := (R_Row, T_Row, 2)) (q0 := 1) (ci := 0) hK hP rfl rfl (kPreR (wc := [(h1, .inr (0, [.ref h2, .int u]))]) hE hK hP hS [1] rfl)) rfl rfl hl.1 rfl (lv_room (Nat.le_of_ble_eq_true rfl)) d_Seg_length_4 ⟨(Nat.le_of_ble_eq_true rfl), (Nat.le_of_ble_eq_true rfl)⟩) hP hS (fun r1 H locs hw hP hS => ?_)
  replace hw := hw.symm
  subst hw
  refine lv_aload_n hx hb d_Seg_length_7 rfl (lv_at hl 0 rfl) ?_
  refine va_get (D := D) (ci := 2) (v := .int a) (C := R_Seg) (T := T_Seg) (N := 2) hx hb hts inw_Seg hown hK hP 0 rfl rfl 1 (by decide) (hts (.fieldLink R_Seg 21 "LikelyBits$Segment" "start" "I") mw_49) (fun _ h9 => h9) rfl d_Seg_length_8 ?_
  refine lv_isub hx hb d_Seg_length_11 ?_
  exact koi hx hb hr hlk hS rfl (Nat.le_of_ble_eq_true rfl) (Nat.le_of_ble_eq_true rfl) d_Seg_length_12

set_option maxHeartbeats 1000000 in
set_option maxRecDepth 100000 in
theorem c_Seg_last (l : Launch) (hl9 : l.stackTraces = false) (D : va_G) (k : gK) (h0 h1 h2 : Nat) (a : Int32) (n : Nat) (f : Nat → Int32) (u : Int32) (L : List Int32) (hR : row_ok n f u L) : Met l y_Seg_last (.code y_Seg_last b_Seg_last 1 (some .int) :: AW) { frames := 2, cells := 0, slots := 0, locals := 40 } (va_Pc [.ref h0] (GR D k [(h0, .inr (2, [.ref h1, .int a])), (h1, .inr (0, [.ref h2, .int u])), (h2, .inl (k.1, n, .inl f))])) (va_Qi (fun r (_ : Unit) => r = sgl L a) (fun _ _ => True) (fun _ => False)) 0 0 (fun _ => False) := by
  refine kMetR (ws := [(h0, .inr (2, [.ref h1, .int a])), (h1, .inr (0, [.ref h2, .int u])), (h2, .inl (k.1, n, .inl f))]) (by decide) (Nat.le_of_ble_eq_true rfl) (fun p e s m below meth c ls H Cc hP hS hl => ?_)
  obtain ⟨hx, hb, hml, hr, hlk, hown, hts, hK, hE, hin⟩ := Cc
  have hl : lv_has ls 1 [(0, .ref h0)] := hl
  have hu := hR.1
  refine lv_aload_n hx hb d_Seg_last_0 rfl (lv_at hl 0 rfl) ?_
  refine kqi (va_runV (As := []) (rest := []) ⟨hx, hb, hml, hown, hts⟩ (c_Seg_length l hl9 D k h0 h1 a h2 u ) (cwV 0 hts (gV mw_50 mw_51 mw_52 mw_53 mw_54) rfl rfl rfl (by decide +kernel) ⟨(Nat.le_of_ble_eq_true rfl), (Nat.le_of_ble_eq_true rfl)⟩) (kRecv (q := (R_Seg, T_Seg, 2)) (q0 := 0) (ci := 2) hK hP rfl rfl (kPreR (wc := [(h0, .inr (2, [.ref h1, .int a])), (h1, .inr (0, [.ref h2, .int u]))]) hE hK hP hS [0, 1] rfl)) rfl rfl hl.1 rfl (lv_room (Nat.le_of_ble_eq_true rfl)) d_Seg_last_1 ⟨(Nat.le_of_ble_eq_true rfl), (Nat.le_of_ble_eq_true rfl)⟩) hP hS (fun r1 H locs hw hP hS => ?_)
  replace hw := hw.symm
  subst hw
  refine lv_if_le (tgt := 26) hx hb d_Seg_last_4 (by decide) (fun c2 => ?_) (fun c2 => ?_)
  · refine lv_iconst (v := -1) hx hb d_Seg_last_26 (by decide) ?_
    exact koi hx hb hr hlk hS (by simp [sgl, ← hu, c2]) (Nat.le_of_ble_eq_true rfl) (Nat.le_of_ble_eq_true rfl) d_Seg_last_27
  · refine lv_aload_n hx hb d_Seg_last_7 rfl (lv_at hl 0 rfl) ?_
    refine va_get (D := D) (ci := 2) (v := .ref h1) (C := R_Seg) (T := T_Seg) (N := 2) hx hb hts inw_Seg hown hK hP 0 rfl rfl 0 (by decide) (hts (.fieldLink R_Seg 9 "LikelyBits$Segment" "row" "LLikelyBits$Row;") mw_43) (fun _ h9 => h9) rfl d_Seg_last_8 ?_
    refine lv_aload_n hx hb d_Seg_last_11 rfl (lv_at hl 0 rfl) ?_
    refine va_get (D := D) (ci := 2) (v := .ref h1) (C := R_Seg) (T := T_Seg) (N := 2) hx hb hts inw_Seg hown hK hP 0 rfl rfl 0 (by decide) (hts (.fieldLink R_Seg 9 "LikelyBits$Segment" "row" "LLikelyBits$Row;") mw_43) (fun _ h9 => h9) rfl d_Seg_last_12 ?_
    refine kqi (va_runV (As := []) (rest := [.ref h1]) ⟨hx, hb, hml, hown, hts⟩ (c_Row_count l hl9 D k h1 h2 u ) (cwV 0 hts (gV mw_44 mw_45 mw_46 mw_47 mw_48) rfl rfl rfl (by decide +kernel) ⟨(Nat.le_of_ble_eq_true rfl), (Nat.le_of_ble_eq_true rfl)⟩) (kRecv (q := (R_Row, T_Row, 2)) (q0 := 1) (ci := 0) hK hP rfl rfl (kPreR (wc := [(h1, .inr (0, [.ref h2, .int u]))]) hE hK hP hS [1] rfl)) rfl rfl hl.1 rfl (lv_room (Nat.le_of_ble_eq_true rfl)) d_Seg_last_15 ⟨(Nat.le_of_ble_eq_true rfl), (Nat.le_of_ble_eq_true rfl)⟩) hP hS (fun r3 H locs hw hP hS => ?_)
    replace hw := hw.symm
    subst hw
    refine lv_iconst (v := 1) hx hb d_Seg_last_18 (by decide) ?_
    refine lv_isub hx hb d_Seg_last_19 ?_
    refine kqi (va_runV (As := [.int (u - 1)]) (rest := []) ⟨hx, hb, hml, hown, hts⟩ (c_Row_byteAt l hl9 D k h1 h2 n f u L (u - 1) (by assumption)) (cwV 1 hts (gV mw_55 mw_56 mw_57 mw_47 mw_58) rfl rfl rfl (by decide +kernel) ⟨(Nat.le_of_ble_eq_true rfl), (Nat.le_of_ble_eq_true rfl)⟩) (kRecv (q := (R_Row, T_Row, 2)) (q0 := 1) (ci := 0) hK hP rfl rfl (kPreR (wc := [(h1, .inr (0, [.ref h2, .int u])), (h2, .inl (k.1, n, .inl f))]) hE hK hP hS [1, 2] rfl)) rfl rfl hl.1 rfl (lv_room (Nat.le_of_ble_eq_true rfl)) d_Seg_last_20 ⟨(Nat.le_of_ble_eq_true rfl), (Nat.le_of_ble_eq_true rfl)⟩) hP hS (fun r4 H locs hw hP hS => ?_)
    replace hw := hw.symm
    subst hw
    refine lv_goto (tgt := 27) hx hb d_Seg_last_23 (by decide) ?_
    exact koi hx hb hr hlk hS (by simp [sgl, ← hu, c2]) (Nat.le_of_ble_eq_true rfl) (Nat.le_of_ble_eq_true rfl) d_Seg_last_27

def wo_Seg_changeLast (k : gK) (h0 h1 h2 : Nat) (a : Int32) (n : Nat) (f : Nat → Int32) (u : Int32) (L : List Int32) (b : Int32) (zz : Nat → Int32) (uu : List Int32) : va_W := match zz, uu with
  | f2, L2 => [(h0, .inr (2, [.ref h1, .int a])), (h1, .inr (0, [.ref h2, .int u])), (h2, .inl (k.1, n, .inl f2))]
def ex_Seg_changeLast (k : gK) (h0 h1 h2 : Nat) (a : Int32) (n : Nat) (f : Nat → Int32) (u : Int32) (L : List Int32) (b : Int32) (zz : Nat → Int32) (uu : List Int32) : Prop := match zz, uu with
  | f2, L2 => row_ok n f2 u L2
def po_Seg_changeLast (k : gK) (h0 h1 h2 : Nat) (a : Int32) (n : Nat) (f : Nat → Int32) (u : Int32) (L : List Int32) (b : Int32) (uu : List Int32) : Prop := match uu with
  | L2 => L2 = sgc L a b
def qc_Seg_changeLast (D : va_G) (k : gK) (h0 h1 h2 : Nat) (a : Int32) (n : Nat) (f : Nat → Int32) (u : Int32) (L : List Int32) (b : Int32) (A : Nat → Prop) : Array Value → State → Outcome → State → Prop := va_Qv (po_Seg_changeLast k h0 h1 h2 a n f u L b) (fun uu t => ∃ zz, ex_Seg_changeLast k h0 h1 h2 a n f u L b zz uu ∧ GP D A (wo_Seg_changeLast k h0 h1 h2 a n f u L b zz uu) t) A
set_option maxHeartbeats 1000000 in
set_option maxRecDepth 100000 in
theorem c_Seg_changeLast (l : Launch) (hl9 : l.stackTraces = false) (D : va_G) (k : gK) (h0 h1 h2 : Nat) (zsz : Nat) (a : Int32) (n : Nat) (f : Nat → Int32) (u : Int32) (L : List Int32) (b : Int32) (hR : row_ok n f u L) : Met l y_Seg_changeLast (.code y_Seg_changeLast b_Seg_changeLast 2 none :: AW) ({ frames := 2, cells := 0, slots := 0, locals := 40 }) (va_Pc [.ref h0, .int b] (GG D k [(h0, .inr (2, [.ref h1, .int a])), (h1, .inr (0, [.ref h2, .int u])), (h2, .inl (k.1, n, .inl f))] zsz)) (qc_Seg_changeLast D k h0 h1 h2 a n f u L b (va_A [(h0, .inr (2, [.ref h1, .int a])), (h1, .inr (0, [.ref h2, .int u])), (h2, .inl (k.1, n, .inl f))] zsz)) 0 0 (va_A [(h0, .inr (2, [.ref h1, .int a])), (h1, .inr (0, [.ref h2, .int u])), (h2, .inl (k.1, n, .inl f))] zsz) := by
  refine kMet (ws := [(h0, .inr (2, [.ref h1, .int a])), (h1, .inr (0, [.ref h2, .int u])), (h2, .inl (k.1, n, .inl f))]) (Qc := qc_Seg_changeLast D k h0 h1 h2 a n f u L b) (by decide) (Nat.le_of_ble_eq_true rfl) (fun p e s m below meth c ls A H Cc hP hD hA hS hl => ?_)
  obtain ⟨hx, hb, hml, hr, hlk, hown, hts, hK, hE, hin⟩ := Cc
  have hl : lv_has ls 2 [(0, .ref h0), (1, .int b)] := hl
  have hu := hR.1
  refine lv_aload_n hx hb d_Seg_changeLast_0 rfl (lv_at hl 0 rfl) ?_
  refine kqi (va_runV (As := []) (rest := []) ⟨hx, hb, hml, hown, hts⟩ (c_Seg_length l hl9 D k h0 h1 a h2 u ) (cwV 0 hts (gV mw_50 mw_51 mw_52 mw_53 mw_54) rfl rfl rfl (by decide +kernel) ⟨(Nat.le_of_ble_eq_true rfl), (Nat.le_of_ble_eq_true rfl)⟩) (kRecv (q := (R_Seg, T_Seg, 2)) (q0 := 0) (ci := 2) hK hP rfl rfl (kPreR (wc := [(h0, .inr (2, [.ref h1, .int a])), (h1, .inr (0, [.ref h2, .int u]))]) hE hK hP hS [0, 1] rfl)) rfl rfl hl.1 rfl (lv_room (Nat.le_of_ble_eq_true rfl)) d_Seg_changeLast_1 ⟨(Nat.le_of_ble_eq_true rfl), (Nat.le_of_ble_eq_true rfl)⟩) hP hS (fun r1 H locs hw hP hS => ?_)
  replace hw := hw.symm
  subst hw
  refine lv_if_le (tgt := 24) hx hb d_Seg_changeLast_4 (by decide) (fun c2 => ?_) (fun c2 => ?_)
  · exact krv (wo := wo_Seg_changeLast k h0 h1 h2 a n f u L b) hx hb hr hlk hP hD hS L f (by simp [po_Seg_changeLast, sgc, ← hu, c2]) (by assumption) [0, 1, 2] rfl (by decide) (Nat.le_of_ble_eq_true rfl) (Nat.le_of_ble_eq_true rfl) d_Seg_changeLast_24
  · refine lv_aload_n hx hb d_Seg_changeLast_7 rfl (lv_at hl 0 rfl) ?_
    refine va_get (D := D) (ci := 2) (v := .ref h1) (C := R_Seg) (T := T_Seg) (N := 2) hx hb hts inw_Seg hown hK hP 0 rfl rfl 0 (by decide) (hts (.fieldLink R_Seg 9 "LikelyBits$Segment" "row" "LLikelyBits$Row;") mw_43) (fun _ h9 => h9) rfl d_Seg_changeLast_8 ?_
    refine lv_aload_n hx hb d_Seg_changeLast_11 rfl (lv_at hl 0 rfl) ?_
    refine va_get (D := D) (ci := 2) (v := .ref h1) (C := R_Seg) (T := T_Seg) (N := 2) hx hb hts inw_Seg hown hK hP 0 rfl rfl 0 (by decide) (hts (.fieldLink R_Seg 9 "LikelyBits$Segment" "row" "LLikelyBits$Row;") mw_43) (fun _ h9 => h9) rfl d_Seg_changeLast_12 ?_
    refine kqi (va_runV (As := []) (rest := [.ref h1]) ⟨hx, hb, hml, hown, hts⟩ (c_Row_count l hl9 D k h1 h2 u ) (cwV 0 hts (gV mw_44 mw_45 mw_46 mw_47 mw_48) rfl rfl rfl (by decide +kernel) ⟨(Nat.le_of_ble_eq_true rfl), (Nat.le_of_ble_eq_true rfl)⟩) (kRecv (q := (R_Row, T_Row, 2)) (q0 := 1) (ci := 0) hK hP rfl rfl (kPreR (wc := [(h1, .inr (0, [.ref h2, .int u]))]) hE hK hP hS [1] rfl)) rfl rfl hl.1 rfl (lv_room (Nat.le_of_ble_eq_true rfl)) d_Seg_changeLast_15 ⟨(Nat.le_of_ble_eq_true rfl), (Nat.le_of_ble_eq_true rfl)⟩) hP hS (fun r3 H locs hw hP hS => ?_)
    replace hw := hw.symm
    subst hw
    refine lv_iconst (v := 1) hx hb d_Seg_changeLast_18 (by decide) ?_
    refine lv_isub hx hb d_Seg_changeLast_19 ?_
    refine lv_iload_n hx hb d_Seg_changeLast_20 rfl (lv_at hl 1 rfl) ?_
    refine kcv (wc := [(h1, .inr (0, [.ref h2, .int u])), (h2, .inl (k.1, n, .inl f))]) (wr := [(h0, .inr (2, [.ref h1, .int a]))]) (va_runV (As := [.int (u - 1), .int b]) (rest := []) ⟨hx, hb, hml, hown, hts⟩ (c_Row_change l hl9 D k h1 h2 H.size n f u L (u - 1) b (by assumption)) (cwV 2 hts (gV mw_59 mw_60 mw_61 mw_47 mw_62) rfl rfl rfl (by decide +kernel) ⟨(Nat.le_of_ble_eq_true rfl), (Nat.le_of_ble_eq_true rfl)⟩) (kRecv (q := (R_Row, T_Row, 2)) (q0 := 1) (ci := 0) hK hP rfl rfl (kPre (wc := [(h1, .inr (0, [.ref h2, .int u])), (h2, .inl (k.1, n, .inl f))]) hE hK hP hD hS hA [1, 2] rfl (by decide))) rfl rfl hl.1 rfl (lv_room (Nat.le_of_ble_eq_true rfl)) d_Seg_changeLast_21 ⟨(Nat.le_of_ble_eq_true rfl), (Nat.le_of_ble_eq_true rfl)⟩) hP hD hS hA [1, 2] [0] rfl rfl (by decide) (by decide) (fun zz uu H locs hw7 hz8 hP hD hS => ?_)
    obtain ⟨f_5, rfl⟩ : ∃ y, y = zz := ⟨_, rfl⟩
    obtain ⟨L_4, rfl⟩ : ∃ y, y = uu := ⟨_, rfl⟩
    have hw7 : L_4 = rs L (u - 1) b := hw7
    have hz8 : row_ok n f_5 u L_4 := hz8
    have hP : va_P D vwCl [(h0, .inr (2, [.ref h1, .int a])), (h1, .inr (0, [.ref h2, .int u])), (h2, .inl (k.1, n, .inl f_5))] H := hP
    have hD : va_D A [(h0, .inr (2, [.ref h1, .int a])), (h1, .inr (0, [.ref h2, .int u])), (h2, .inl (k.1, n, .inl f_5))] := hD
    exact krv (wo := wo_Seg_changeLast k h0 h1 h2 a n f u L b) hx hb hr hlk hP hD hS L_4 f_5 (by obtain rfl := hw7; simp [po_Seg_changeLast, sgc, ← hu, c2]) (by assumption) [0, 1, 2] rfl (by decide) (Nat.le_of_ble_eq_true rfl) (Nat.le_of_ble_eq_true rfl) d_Seg_changeLast_24

def wo_Seg_append (k : gK) (h0 h1 h2 : Nat) (a : Int32) (n : Nat) (f : Nat → Int32) (u : Int32) (L : List Int32) (b : Int32) (zz : Nat × (Nat → Int32) × Int32) (uu : Nat × List Int32) : va_W := match zz, uu with
  | (q2, f2, u2), (n2, L2) => [(h0, .inr (2, [.ref h1, .int a])), (h1, .inr (0, [.ref q2, .int u2])), (q2, .inl (k.1, n2, .inl f2))]
def ex_Seg_append (k : gK) (h0 h1 h2 : Nat) (a : Int32) (n : Nat) (f : Nat → Int32) (u : Int32) (L : List Int32) (b : Int32) (zz : Nat × (Nat → Int32) × Int32) (uu : Nat × List Int32) : Prop := match zz, uu with
  | (q2, f2, u2), (n2, L2) => row_ok n2 f2 u2 L2
def po_Seg_append (k : gK) (h0 h1 h2 : Nat) (a : Int32) (n : Nat) (f : Nat → Int32) (u : Int32) (L : List Int32) (b : Int32) (uu : Nat × List Int32) : Prop := match uu with
  | (n2, L2) => n2 = apn n L ∧ L2 = app L b
def qc_Seg_append (D : va_G) (k : gK) (h0 h1 h2 : Nat) (a : Int32) (n : Nat) (f : Nat → Int32) (u : Int32) (L : List Int32) (b : Int32) (A : Nat → Prop) : Array Value → State → Outcome → State → Prop := va_Qv (po_Seg_append k h0 h1 h2 a n f u L b) (fun uu t => ∃ zz, ex_Seg_append k h0 h1 h2 a n f u L b zz uu ∧ GP D A (wo_Seg_append k h0 h1 h2 a n f u L b zz uu) t) A
set_option maxHeartbeats 1000000 in
set_option maxRecDepth 100000 in
theorem c_Seg_append (l : Launch) (hl9 : l.stackTraces = false) (D : va_G) (k : gK) (h0 h1 h2 : Nat) (zsz : Nat) (a : Int32) (n : Nat) (f : Nat → Int32) (u : Int32) (L : List Int32) (b : Int32) (hR : row_ok n f u L) : Met l y_Seg_append (.code y_Seg_append b_Seg_append 2 none :: AW) ({ frames := 3, cells := apn n L - n, slots := 2 * (apn n L - n), locals := 103 }) (va_Pc [.ref h0, .int b] (GG D k [(h0, .inr (2, [.ref h1, .int a])), (h1, .inr (0, [.ref h2, .int u])), (h2, .inl (k.1, n, .inl f))] zsz)) (qc_Seg_append D k h0 h1 h2 a n f u L b (va_A [(h0, .inr (2, [.ref h1, .int a])), (h1, .inr (0, [.ref h2, .int u])), (h2, .inl (k.1, n, .inl f))] zsz)) (apn n L - n) (2 * (apn n L - n)) (va_A [(h0, .inr (2, [.ref h1, .int a])), (h1, .inr (0, [.ref h2, .int u])), (h2, .inl (k.1, n, .inl f))] zsz) := by
  refine kMet (ws := [(h0, .inr (2, [.ref h1, .int a])), (h1, .inr (0, [.ref h2, .int u])), (h2, .inl (k.1, n, .inl f))]) (Qc := qc_Seg_append D k h0 h1 h2 a n f u L b) (by decide) (Nat.le_of_ble_eq_true rfl) (fun p e s m below meth c ls A H Cc hP hD hA hS hl => ?_)
  obtain ⟨hx, hb, hml, hr, hlk, hown, hts, hK, hE, hin⟩ := Cc
  have hl : lv_has ls 2 [(0, .ref h0), (1, .int b)] := hl
  refine lv_aload_n hx hb d_Seg_append_0 rfl (lv_at hl 0 rfl) ?_
  refine va_get (D := D) (ci := 2) (v := .ref h1) (C := R_Seg) (T := T_Seg) (N := 2) hx hb hts inw_Seg hown hK hP 0 rfl rfl 0 (by decide) (hts (.fieldLink R_Seg 9 "LikelyBits$Segment" "row" "LLikelyBits$Row;") mw_43) (fun _ h9 => h9) rfl d_Seg_append_1 ?_
  refine lv_iload_n hx hb d_Seg_append_4 rfl (lv_at hl 1 rfl) ?_
  refine kcv (wc := [(h1, .inr (0, [.ref h2, .int u])), (h2, .inl (k.1, n, .inl f))]) (wr := [(h0, .inr (2, [.ref h1, .int a]))]) (va_runV (As := [.int b]) (rest := []) ⟨hx, hb, hml, hown, hts⟩ (c_Row_append l hl9 D k h1 h2 H.size n f u L b (by assumption)) (cwV 1 hts (gV mw_63 mw_64 mw_65 mw_47 mw_66) rfl rfl rfl (by decide +kernel) ⟨(Nat.le_of_ble_eq_true rfl), (Nat.le_of_ble_eq_true rfl)⟩) (kRecv (q := (R_Row, T_Row, 2)) (q0 := 1) (ci := 0) hK hP rfl rfl (kPre (wc := [(h1, .inr (0, [.ref h2, .int u])), (h2, .inl (k.1, n, .inl f))]) hE hK hP hD hS hA [1, 2] rfl (by decide))) rfl rfl hl.1 rfl (lv_room (Nat.le_of_ble_eq_true rfl)) d_Seg_append_5 ⟨(by first | omega | (dsimp only; omega)), (by first | omega | (dsimp only; omega))⟩) hP hD hS hA [1, 2] [0] rfl rfl (by decide) (by decide) (fun zz uu H locs hw7 hz8 hP hD hS => ?_)
  obtain ⟨q_3, f_4, u_5⟩ := zz
  obtain ⟨n_1, L_2⟩ := uu
  have hw7 : n_1 = apn n L ∧ L_2 = app L b := hw7
  have hz8 : row_ok n_1 f_4 u_5 L_2 := hz8
  have hP : va_P D vwCl [(h0, .inr (2, [.ref h1, .int a])), (h1, .inr (0, [.ref q_3, .int u_5])), (q_3, .inl (k.1, n_1, .inl f_4))] H := hP
  have hD : va_D A [(h0, .inr (2, [.ref h1, .int a])), (h1, .inr (0, [.ref q_3, .int u_5])), (q_3, .inl (k.1, n_1, .inl f_4))] := hD
  exact krv (wo := wo_Seg_append k h0 h1 h2 a n f u L b) hx hb hr hlk hP hD hS (n_1, L_2) (q_3, f_4, u_5) hw7 (by assumption) [0, 1, 2] rfl (by decide) (by first | omega | (dsimp only; omega)) (by first | omega | (dsimp only; omega)) d_Seg_append_8

def wo_Seg_drop (k : gK) (h0 h1 h2 : Nat) (a : Int32) (n : Nat) (f : Nat → Int32) (u : Int32) (L : List Int32) (zz : Int32) (uu : List Int32) : va_W := match zz, uu with
  | u2, L2 => [(h0, .inr (2, [.ref h1, .int a])), (h1, .inr (0, [.ref h2, .int u2])), (h2, .inl (k.1, n, .inl f))]
def ex_Seg_drop (k : gK) (h0 h1 h2 : Nat) (a : Int32) (n : Nat) (f : Nat → Int32) (u : Int32) (L : List Int32) (zz : Int32) (uu : List Int32) : Prop := match zz, uu with
  | u2, L2 => row_ok n f u2 L2
def po_Seg_drop (k : gK) (h0 h1 h2 : Nat) (a : Int32) (n : Nat) (f : Nat → Int32) (u : Int32) (L : List Int32) (uu : List Int32) : Prop := match uu with
  | L2 => L2 = sgd L a
def qc_Seg_drop (D : va_G) (k : gK) (h0 h1 h2 : Nat) (a : Int32) (n : Nat) (f : Nat → Int32) (u : Int32) (L : List Int32) (A : Nat → Prop) : Array Value → State → Outcome → State → Prop := va_Qv (po_Seg_drop k h0 h1 h2 a n f u L) (fun uu t => ∃ zz, ex_Seg_drop k h0 h1 h2 a n f u L zz uu ∧ GP D A (wo_Seg_drop k h0 h1 h2 a n f u L zz uu) t) A
set_option maxHeartbeats 1000000 in
set_option maxRecDepth 100000 in
theorem c_Seg_drop (l : Launch) (hl9 : l.stackTraces = false) (D : va_G) (k : gK) (h0 h1 h2 : Nat) (zsz : Nat) (a : Int32) (n : Nat) (f : Nat → Int32) (u : Int32) (L : List Int32) (hR : row_ok n f u L) : Met l y_Seg_dropLastIfAllOnes (.code y_Seg_dropLastIfAllOnes b_Seg_dropLastIfAllOnes 1 none :: AW) ({ frames := 3, cells := 0, slots := 0, locals := 60 }) (va_Pc [.ref h0] (GG D k [(h0, .inr (2, [.ref h1, .int a])), (h1, .inr (0, [.ref h2, .int u])), (h2, .inl (k.1, n, .inl f))] zsz)) (qc_Seg_drop D k h0 h1 h2 a n f u L (va_A [(h0, .inr (2, [.ref h1, .int a])), (h1, .inr (0, [.ref h2, .int u])), (h2, .inl (k.1, n, .inl f))] zsz)) 0 0 (va_A [(h0, .inr (2, [.ref h1, .int a])), (h1, .inr (0, [.ref h2, .int u])), (h2, .inl (k.1, n, .inl f))] zsz) := by
  refine kMet (ws := [(h0, .inr (2, [.ref h1, .int a])), (h1, .inr (0, [.ref h2, .int u])), (h2, .inl (k.1, n, .inl f))]) (Qc := qc_Seg_drop D k h0 h1 h2 a n f u L) (by decide) (Nat.le_of_ble_eq_true rfl) (fun p e s m below meth c ls A H Cc hP hD hA hS hl => ?_)
  obtain ⟨hx, hb, hml, hr, hlk, hown, hts, hK, hE, hin⟩ := Cc
  have hl : lv_has ls 1 [(0, .ref h0)] := hl
  refine lv_aload_n hx hb d_Seg_dropLastIfAllOnes_0 rfl (lv_at hl 0 rfl) ?_
  refine kqi (va_runV (As := []) (rest := []) ⟨hx, hb, hml, hown, hts⟩ (c_Seg_last l hl9 D k h0 h1 h2 a n f u L (by assumption)) (cwV 0 hts (gV mw_67 mw_68 mw_69 mw_53 mw_70) rfl rfl rfl (by decide +kernel) ⟨(Nat.le_of_ble_eq_true rfl), (Nat.le_of_ble_eq_true rfl)⟩) (kRecv (q := (R_Seg, T_Seg, 2)) (q0 := 0) (ci := 2) hK hP rfl rfl (kPreR (wc := [(h0, .inr (2, [.ref h1, .int a])), (h1, .inr (0, [.ref h2, .int u])), (h2, .inl (k.1, n, .inl f))]) hE hK hP hS [0, 1, 2] rfl)) rfl rfl hl.1 rfl (lv_room (Nat.le_of_ble_eq_true rfl)) d_Seg_dropLastIfAllOnes_1 ⟨(Nat.le_of_ble_eq_true rfl), (Nat.le_of_ble_eq_true rfl)⟩) hP hS (fun r1 H locs hw hP hS => ?_)
  replace hw := hw.symm
  subst hw
  refine lv_sipush (v := 255) hx hb d_Seg_dropLastIfAllOnes_4 (by decide) ?_
  refine lv_icmp_ne (tgt := 17) hx hb d_Seg_dropLastIfAllOnes_7 (by decide) (fun c2 => ?_) (fun c2 => ?_)
  · exact krv (wo := wo_Seg_drop k h0 h1 h2 a n f u L) hx hb hr hlk hP hD hS L u (by simp [po_Seg_drop, sgd, c2]) (by assumption) [0, 1, 2] rfl (by decide) (Nat.le_of_ble_eq_true rfl) (Nat.le_of_ble_eq_true rfl) d_Seg_dropLastIfAllOnes_17
  · refine lv_aload_n hx hb d_Seg_dropLastIfAllOnes_10 rfl (lv_at hl 0 rfl) ?_
    refine va_get (D := D) (ci := 2) (v := .ref h1) (C := R_Seg) (T := T_Seg) (N := 2) hx hb hts inw_Seg hown hK hP 0 rfl rfl 0 (by decide) (hts (.fieldLink R_Seg 9 "LikelyBits$Segment" "row" "LLikelyBits$Row;") mw_43) (fun _ h9 => h9) rfl d_Seg_dropLastIfAllOnes_11 ?_
    refine kcv (wc := [(h1, .inr (0, [.ref h2, .int u])), (h2, .inl (k.1, n, .inl f))]) (wr := [(h0, .inr (2, [.ref h1, .int a]))]) (va_runV (As := []) (rest := []) ⟨hx, hb, hml, hown, hts⟩ (c_Row_dropLast l hl9 D k h1 h2 H.size n f u L (by assumption)) (cwV 0 hts (gV mw_71 mw_72 mw_73 mw_47 mw_74) rfl rfl rfl (by decide +kernel) ⟨(Nat.le_of_ble_eq_true rfl), (Nat.le_of_ble_eq_true rfl)⟩) (kRecv (q := (R_Row, T_Row, 2)) (q0 := 1) (ci := 0) hK hP rfl rfl (kPre (wc := [(h1, .inr (0, [.ref h2, .int u])), (h2, .inl (k.1, n, .inl f))]) hE hK hP hD hS hA [1, 2] rfl (by decide))) rfl rfl hl.1 rfl (lv_room (Nat.le_of_ble_eq_true rfl)) d_Seg_dropLastIfAllOnes_14 ⟨(Nat.le_of_ble_eq_true rfl), (Nat.le_of_ble_eq_true rfl)⟩) hP hD hS hA [1, 2] [0] rfl rfl (by decide) (by decide) (fun zz uu H locs hw6 hz7 hP hD hS => ?_)
    obtain ⟨u_4, rfl⟩ : ∃ y, y = zz := ⟨_, rfl⟩
    obtain ⟨L_3, rfl⟩ : ∃ y, y = uu := ⟨_, rfl⟩
    have hw6 : L_3 = L.dropLast := hw6
    have hz7 : row_ok n f u_4 L_3 := hz7
    have hP : va_P D vwCl [(h0, .inr (2, [.ref h1, .int a])), (h1, .inr (0, [.ref h2, .int u_4])), (h2, .inl (k.1, n, .inl f))] H := hP
    have hD : va_D A [(h0, .inr (2, [.ref h1, .int a])), (h1, .inr (0, [.ref h2, .int u_4])), (h2, .inl (k.1, n, .inl f))] := hD
    exact krv (wo := wo_Seg_drop k h0 h1 h2 a n f u L) hx hb hr hlk hP hD hS L_3 u_4 (by obtain rfl := hw6; simp [po_Seg_drop, sgd, c2]) (by assumption) [0, 1, 2] rfl (by decide) (Nat.le_of_ble_eq_true rfl) (Nat.le_of_ble_eq_true rfl) d_Seg_dropLastIfAllOnes_17
end
section
def bo3 (lo rm : Int32) (n : Nat) (L : List Int32) : Int32 × Int32 × Nat × List Int32 := (lo &&& ((1 <<< ((27 - rm) &&& 31)) - 1), rm, apn n L, app L (jushr lo (27 - rm) &&& 255))
def bo2 (lo v : Int32) (n : Nat) (L : List Int32) : Int32 × Int32 × Nat × List Int32 := if v = 255 then bo3 lo 7 n L else bo3 lo 8 n L
/-- a byte is out -/
def bo (a lo : Int32) (n : Nat) (L : List Int32) : Int32 × Int32 × Nat × List Int32 := if sgl L a = -1 then bo2 lo (sgl L a) n L else if sgl L a = 255 then bo2 lo (sgl L a) n L else if lo < 134217728 then bo2 lo (sgl L a) n L else bo2 (lo - 134217728) (sgl L a + 1) n (sgc L a (sgl L a + 1))
def fb (a lo rm : Int32) (n : Nat) (L : List Int32) : Int32 × Int32 × Nat × List Int32 := bo a (lo <<< (rm &&& 31)) n L
def enl : Nat → Int32 → Int32 → Int32 → Int32 → Nat → List Int32 → Int32 × Int32 × Int32 × Nat × List Int32
  | 0, _, lo, sz, rm, n, L => (lo, sz, rm, n, L)
  | t + 1, a, lo, sz, rm, n, L => if (32768 : Int32) ≤ sz then (lo, sz, rm, n, L) else if rm - 1 = 0 then enl t a (bo a (lo * 2) n L).1 (sz * 2) (bo a (lo * 2) n L).2.1 (bo a (lo * 2) n L).2.2.1 (bo a (lo * 2) n L).2.2.2 else enl t a (lo * 2) (sz * 2) (rm - 1) n L
def aLk (lo sz : Int32) (sf lf : Nat → Int32) (x pt : Int32) : Int32 × Int32 × (Nat → Int32) × (Nat → Int32) := if sz < 32768 then (if pt ≤ sz then (lo + pt, sz, cLk sf lf x) else (lo, pt, cLk sf lf x)) else (lo + pt, sz, sf, lf)
def aOt (lo sz : Int32) (sf lf : Nat → Int32) (x pt : Int32) : Int32 × Int32 × (Nat → Int32) × (Nat → Int32) := if pt ≤ sz then (lo, pt, cOt sf lf x) else (lo + pt, sz, cOt sf lf x)
def wa0 (lo sz : Int32) (sf lf : Nat → Int32) (x bit : Int32) : Int32 × Int32 × (Nat → Int32) × (Nat → Int32) := if bit = ent 19 lf x then aLk lo (sz - prt sf x) sf lf x (prt sf x) else aOt lo (sz - prt sf x) sf lf x (prt sf x)
def wad (a lo sz rm : Int32) (sf lf : Nat → Int32) (n : Nat) (L : List Int32) (x bit : Int32) : Int32 × Int32 × Int32 × (Nat → Int32) × (Nat → Int32) × Nat × List Int32 :=
  ((enl 15 a (wa0 lo sz sf lf x bit).1 (wa0 lo sz sf lf x bit).2.1 rm n L).1, (enl 15 a (wa0 lo sz sf lf x bit).1 (wa0 lo sz sf lf x bit).2.1 rm n L).2.1, (enl 15 a (wa0 lo sz sf lf x bit).1 (wa0 lo sz sf lf x bit).2.1 rm n L).2.2.1, (wa0 lo sz sf lf x bit).2.2.1, (wa0 lo sz sf lf x bit).2.2.2, (enl 15 a (wa0 lo sz sf lf x bit).1 (wa0 lo sz sf lf x bit).2.1 rm n L).2.2.2.1, (enl 15 a (wa0 lo sz sf lf x bit).1 (wa0 lo sz sf lf x bit).2.1 rm n L).2.2.2.2)
def ew0l (lo sz : Int32) : Int32 := if lo + sz ≤ lo ||| 65535 then (lo ||| 65535) - 32768 else lo ||| 65535
def ew0 (a lo sz rm : Int32) (n : Nat) (L : List Int32) : Int32 × Int32 × Nat × List Int32 := fb a (fb a (ew0l lo sz) rm n L).1 (fb a (ew0l lo sz) rm n L).2.1 (fb a (ew0l lo sz) rm n L).2.2.1 (fb a (ew0l lo sz) rm n L).2.2.2
def ew1 : Nat → Int32 → Int32 → Int32 → Int32 → Nat → List Int32 → Int32 × Int32 × Nat × List Int32
  | 0, _, _, lo, rm, n, L => (lo, rm, n, L)
  | t + 1, a, y, lo, rm, n, L => if y ≤ 0 then (lo, rm, n, L) else ew1 t a (y - (fb a lo rm n L).2.1) (fb a lo rm n L).1 (fb a lo rm n L).2.1 (fb a lo rm n L).2.2.1 (fb a lo rm n L).2.2.2
theorem apn_le (n : Nat) (L : List Int32) : n ≤ apn n L := by
  unfold apn
  split
  · exact Nat.le_refl _
  · split <;> omega
theorem bo_le (a lo : Int32) (n : Nat) (L : List Int32) : n ≤ (bo a lo n L).2.2.1 := by
  unfold bo bo2 bo3
  repeat' split
  all_goals exact apn_le _ _
theorem fb_le (a lo rm : Int32) (n : Nat) (L : List Int32) : n ≤ (fb a lo rm n L).2.2.1 := bo_le _ _ _ _
theorem enl_le (t : Nat) : ∀ (a lo sz rm : Int32) (n : Nat) (L : List Int32), n ≤ (enl t a lo sz rm n L).2.2.2.1 := by
  induction t with
  | zero => intro a lo sz rm n L; exact Nat.le_refl _
  | succ t ih =>
    intro a lo sz rm n L
    rw [enl]
    split
    · exact Nat.le_refl _
    · split
      · exact Nat.le_trans (bo_le a (lo * 2) n L) (ih _ _ _ _ _ _)
      · exact ih _ _ _ _ _ _
theorem ew1_le (t : Nat) : ∀ (a y lo rm : Int32) (n : Nat) (L : List Int32), n ≤ (ew1 t a y lo rm n L).2.2.1 := by
  induction t with
  | zero => intro a y lo rm n L; exact Nat.le_refl _
  | succ t ih =>
    intro a y lo rm n L
    rw [ew1]
    split
    · exact Nat.le_refl _
    · exact Nat.le_trans (fb_le a lo rm n L) (ih _ _ _ _ _ _)
theorem i_15 {t : Nat} (h : t < 15) : ¬ (15 : Int32) ≤ nI t := nI_ge h (by decide)
theorem i_12 {t : Nat} (h : t < 12) : ¬ (12 : Int32) ≤ nI t := nI_ge h (by decide)
end
section
set_option maxRecDepth 20000 in
theorem mw_75 : (Cond.methodLink R_CWr 3 objectInit) ∈ AW := inAW (List.mem_append_right _ (show _ ∈ tables_1_1 ++ (tables_1_2 ++ (tables_1_3 ++ tables_1_4)) from (List.mem_append_left _ (List.mem_of_getElem? (i := 74) rfl)))) rfl
set_option maxRecDepth 20000 in
theorem mw_76 : (Cond.fieldLink R_CWr 9 "LikelyBits$CodedWriter" "segment" "LLikelyBits$Segment;") ∈ AW := inAW (List.mem_append_right _ (show _ ∈ tables_1_1 ++ (tables_1_2 ++ (tables_1_3 ++ tables_1_4)) from (List.mem_append_left _ (List.mem_of_getElem? (i := 75) rfl)))) rfl
set_option maxRecDepth 20000 in
theorem mw_77 : (Cond.fieldLink R_CWr 15 "LikelyBits$CodedWriter" "contexts" "LLikelyBits$Contexts;") ∈ AW := inAW (List.mem_append_right _ (show _ ∈ tables_1_1 ++ (tables_1_2 ++ (tables_1_3 ++ tables_1_4)) from (List.mem_append_left _ (List.mem_of_getElem? (i := 76) rfl)))) rfl
set_option maxRecDepth 20000 in
theorem mw_78 : (Cond.fieldLink R_CWr 19 "LikelyBits$CodedWriter" "low" "I") ∈ AW := inAW (List.mem_append_right _ (show _ ∈ tables_1_1 ++ (tables_1_2 ++ (tables_1_3 ++ tables_1_4)) from (List.mem_append_left _ (List.mem_of_getElem? (i := 77) rfl)))) rfl
set_option maxRecDepth 20000 in
theorem mw_79 : (Cond.constant R_CWr 23 32768) ∈ AW := inAW (List.mem_append_right _ (show _ ∈ tables_1_1 ++ (tables_1_2 ++ (tables_1_3 ++ tables_1_4)) from (List.mem_append_right _ (List.mem_append_left _ (List.mem_of_getElem? (i := 211) rfl))))) rfl
set_option maxRecDepth 20000 in
theorem mw_80 : (Cond.fieldLink R_CWr 24 "LikelyBits$CodedWriter" "size" "I") ∈ AW := inAW (List.mem_append_right _ (show _ ∈ tables_1_1 ++ (tables_1_2 ++ (tables_1_3 ++ tables_1_4)) from (List.mem_append_left _ (List.mem_of_getElem? (i := 79) rfl)))) rfl
set_option maxRecDepth 20000 in
theorem mw_81 : (Cond.fieldLink R_CWr 27 "LikelyBits$CodedWriter" "room" "I") ∈ AW := inAW (List.mem_append_right _ (show _ ∈ tables_1_1 ++ (tables_1_2 ++ (tables_1_3 ++ tables_1_4)) from (List.mem_append_left _ (List.mem_of_getElem? (i := 81) rfl)))) rfl
set_option maxRecDepth 20000 in
theorem mw_82 : (Cond.methodLink R_CWr 59 y_Seg_last) ∈ AW := inAW (List.mem_append_right _ (show _ ∈ tables_1_1 ++ (tables_1_2 ++ (tables_1_3 ++ tables_1_4)) from (List.mem_append_right _ (List.mem_append_right _ (List.mem_append_left _ (List.mem_of_getElem? (i := 58) rfl)))))) rfl
set_option maxRecDepth 20000 in
theorem mw_83 : (Cond.methodLink R_CWr 69 y_Seg_append) ∈ AW := inAW (List.mem_append_right _ (show _ ∈ tables_1_1 ++ (tables_1_2 ++ (tables_1_3 ++ tables_1_4)) from (List.mem_append_right _ (List.mem_append_right _ (List.mem_append_left _ (List.mem_of_getElem? (i := 61) rfl)))))) rfl
set_option maxRecDepth 20000 in
theorem mw_84 : (Cond.instanceMethod y_Seg_append) ∈ AW := inAW (List.mem_append_right _ (show _ ∈ tables_1_1 ++ (tables_1_2 ++ (tables_1_3 ++ tables_1_4)) from (List.mem_append_right _ (List.mem_append_right _ (List.mem_append_left _ (List.mem_of_getElem? (i := 1) rfl)))))) rfl
set_option maxRecDepth 20000 in
theorem mw_85 : (Cond.selects R_Seg y_Seg_append y_Seg_append) ∈ AW := inAW (List.mem_append_right _ (show _ ∈ tables_1_1 ++ (tables_1_2 ++ (tables_1_3 ++ tables_1_4)) from (List.mem_append_right _ (List.mem_append_right _ (List.mem_append_left _ (List.mem_of_getElem? (i := 2) rfl)))))) rfl
set_option maxRecDepth 20000 in
theorem mw_86 : (Cond.code y_Seg_append b_Seg_append 2 none) ∈ AW := inAW (List.mem_append_right _ (show _ ∈ tables_1_1 ++ (tables_1_2 ++ (tables_1_3 ++ tables_1_4)) from (List.mem_append_right _ (List.mem_append_right _ (List.mem_append_left _ (List.mem_of_getElem? (i := 3) rfl)))))) rfl
set_option maxRecDepth 20000 in
theorem mw_87 : (Cond.constant R_CWr 65 134217728) ∈ AW := inAW (List.mem_append_right _ (show _ ∈ tables_1_1 ++ (tables_1_2 ++ (tables_1_3 ++ tables_1_4)) from (List.mem_append_right _ (List.mem_append_right _ (List.mem_append_left _ (List.mem_of_getElem? (i := 59) rfl)))))) rfl
set_option maxRecDepth 20000 in
theorem mw_88 : (Cond.methodLink R_CWr 66 y_Seg_changeLast) ∈ AW := inAW (List.mem_append_right _ (show _ ∈ tables_1_1 ++ (tables_1_2 ++ (tables_1_3 ++ tables_1_4)) from (List.mem_append_right _ (List.mem_append_right _ (List.mem_append_left _ (List.mem_of_getElem? (i := 60) rfl)))))) rfl
set_option maxRecDepth 20000 in
theorem mw_89 : (Cond.instanceMethod y_Seg_changeLast) ∈ AW := inAW (List.mem_append_right _ (show _ ∈ tables_1_1 ++ (tables_1_2 ++ (tables_1_3 ++ tables_1_4)) from (List.mem_append_right _ (List.mem_append_right _ (List.mem_append_left _ (List.mem_of_getElem? (i := 6) rfl)))))) rfl
set_option maxRecDepth 20000 in
theorem mw_90 : (Cond.selects R_Seg y_Seg_changeLast y_Seg_changeLast) ∈ AW := inAW (List.mem_append_right _ (show _ ∈ tables_1_1 ++ (tables_1_2 ++ (tables_1_3 ++ tables_1_4)) from (List.mem_append_right _ (List.mem_append_right _ (List.mem_append_left _ (List.mem_of_getElem? (i := 7) rfl)))))) rfl
set_option maxRecDepth 20000 in
theorem mw_91 : (Cond.code y_Seg_changeLast b_Seg_changeLast 2 none) ∈ AW := inAW (List.mem_append_right _ (show _ ∈ tables_1_1 ++ (tables_1_2 ++ (tables_1_3 ++ tables_1_4)) from (List.mem_append_right _ (List.mem_append_right _ (List.mem_append_left _ (List.mem_of_getElem? (i := 8) rfl)))))) rfl
set_option maxRecDepth 20000 in
theorem mw_92 : (Cond.methodLink R_CWr 56 y_CWr_byteOut) ∈ AW := inAW (List.mem_append_right _ (show _ ∈ tables_1_1 ++ (tables_1_2 ++ (tables_1_3 ++ tables_1_4)) from (List.mem_append_right _ (List.mem_append_right _ (List.mem_append_left _ (List.mem_of_getElem? (i := 54) rfl)))))) rfl
set_option maxRecDepth 20000 in
theorem mw_93 : (Cond.instanceMethod y_CWr_byteOut) ∈ AW := inAW (List.mem_append_right _ (show _ ∈ tables_1_1 ++ (tables_1_2 ++ (tables_1_3 ++ tables_1_4)) from (List.mem_append_right _ (List.mem_append_right _ (List.mem_append_left _ (List.mem_of_getElem? (i := 56) rfl)))))) rfl
set_option maxRecDepth 20000 in
theorem mw_94 : (Cond.selects R_CWr y_CWr_byteOut y_CWr_byteOut) ∈ AW := inAW (List.mem_append_left _ (List.mem_of_getElem? (i := 6) rfl)) rfl
set_option maxRecDepth 20000 in
theorem mw_95 : (Cond.initialized R_CWr) ∈ AW := inAW (List.mem_append_right _ (show _ ∈ tables_1_1 ++ (tables_1_2 ++ (tables_1_3 ++ tables_1_4)) from (List.mem_append_left _ (List.mem_of_getElem? (i := 5) rfl)))) rfl
set_option maxRecDepth 20000 in
theorem mw_96 : (Cond.code y_CWr_byteOut b_CWr_byteOut 3 none) ∈ AW := inAW (List.mem_append_right _ (show _ ∈ tables_1_1 ++ (tables_1_2 ++ (tables_1_3 ++ tables_1_4)) from (List.mem_append_right _ (List.mem_append_right _ (List.mem_append_left _ (List.mem_of_getElem? (i := 57) rfl)))))) rfl
set_option maxRecDepth 20000 in
theorem mw_97 : (Cond.methodLink R_CWr 49 y_Cxt_afterLikely) ∈ AW := inAW (List.mem_append_right _ (show _ ∈ tables_1_1 ++ (tables_1_2 ++ (tables_1_3 ++ tables_1_4)) from (List.mem_append_right _ (List.mem_append_right _ (List.mem_append_left _ (List.mem_of_getElem? (i := 29) rfl)))))) rfl
set_option maxRecDepth 20000 in
theorem mw_98 : (Cond.instanceMethod y_Cxt_afterLikely) ∈ AW := inAW (List.mem_append_right _ (show _ ∈ tables_1_1 ++ (tables_1_2 ++ (tables_1_3 ++ tables_1_4)) from (List.mem_append_right _ (List.mem_append_right _ (List.mem_append_left _ (List.mem_of_getElem? (i := 30) rfl)))))) rfl
set_option maxRecDepth 20000 in
theorem mw_99 : (Cond.selects R_Cxt y_Cxt_afterLikely y_Cxt_afterLikely) ∈ AW := inAW (List.mem_append_right _ (show _ ∈ tables_1_1 ++ (tables_1_2 ++ (tables_1_3 ++ tables_1_4)) from (List.mem_append_right _ (List.mem_append_right _ (List.mem_append_left _ (List.mem_of_getElem? (i := 31) rfl)))))) rfl
set_option maxRecDepth 20000 in
theorem mw_100 : (Cond.code y_Cxt_afterLikely b_Cxt_afterLikely 2 none) ∈ AW := inAW (List.mem_append_right _ (show _ ∈ tables_1_1 ++ (tables_1_2 ++ (tables_1_3 ++ tables_1_4)) from (List.mem_append_right _ (List.mem_append_right _ (List.mem_append_left _ (List.mem_of_getElem? (i := 32) rfl)))))) rfl
set_option maxRecDepth 20000 in
theorem mw_101 : (Cond.methodLink R_CWr 53 y_Cxt_afterOther) ∈ AW := inAW (List.mem_append_right _ (show _ ∈ tables_1_1 ++ (tables_1_2 ++ (tables_1_3 ++ tables_1_4)) from (List.mem_append_right _ (List.mem_append_right _ (List.mem_append_left _ (List.mem_of_getElem? (i := 41) rfl)))))) rfl
set_option maxRecDepth 20000 in
theorem mw_102 : (Cond.instanceMethod y_Cxt_afterOther) ∈ AW := inAW (List.mem_append_right _ (show _ ∈ tables_1_1 ++ (tables_1_2 ++ (tables_1_3 ++ tables_1_4)) from (List.mem_append_right _ (List.mem_append_right _ (List.mem_append_left _ (List.mem_of_getElem? (i := 42) rfl)))))) rfl
set_option maxRecDepth 20000 in
theorem mw_103 : (Cond.selects R_Cxt y_Cxt_afterOther y_Cxt_afterOther) ∈ AW := inAW (List.mem_append_right _ (show _ ∈ tables_1_1 ++ (tables_1_2 ++ (tables_1_3 ++ tables_1_4)) from (List.mem_append_right _ (List.mem_append_right _ (List.mem_append_left _ (List.mem_of_getElem? (i := 43) rfl)))))) rfl
set_option maxRecDepth 20000 in
theorem mw_104 : (Cond.code y_Cxt_afterOther b_Cxt_afterOther 4 none) ∈ AW := inAW (List.mem_append_right _ (show _ ∈ tables_1_1 ++ (tables_1_2 ++ (tables_1_3 ++ tables_1_4)) from (List.mem_append_right _ (List.mem_append_right _ (List.mem_append_left _ (List.mem_of_getElem? (i := 44) rfl)))))) rfl
def wo_CWr_init (k : gK) (h0 : Nat) (qs : Nat) (qc : Nat) (zz : Unit) (uu : Unit) : va_W := match zz, uu with
  | _, _ => [(h0, .inr (4, [.ref qs, .ref qc, .int 0, .int 0, .int 0]))]
def ex_CWr_init (k : gK) (h0 : Nat) (qs : Nat) (qc : Nat) (zz : Unit) (uu : Unit) : Prop := match zz, uu with
  | _, _ => True
def po_CWr_init (k : gK) (h0 : Nat) (qs : Nat) (qc : Nat) (uu : Unit) : Prop := match uu with
  | _ => True
def qc_CWr_init (D : va_G) (k : gK) (h0 : Nat) (qs : Nat) (qc : Nat) (A : Nat → Prop) : Array Value → State → Outcome → State → Prop := va_Qv (po_CWr_init k h0 qs qc) (fun uu t => ∃ zz, ex_CWr_init k h0 qs qc zz uu ∧ GP D A (wo_CWr_init k h0 qs qc zz uu) t) A
set_option maxHeartbeats 1000000 in
set_option maxRecDepth 100000 in
theorem c_CWr_init (l : Launch) (hl9 : l.stackTraces = false) (D : va_G) (k : gK) (h0 : Nat) (zsz : Nat) (qs : Nat) (qc : Nat) : Met l y_CWr_init (.code y_CWr_init b_CWr_init 3 none :: AW) ({ frames := 1, cells := 0, slots := 0, locals := 22 }) (va_Pc [.ref h0, .ref qs, .ref qc] (GG D k [(h0, .inr (4, [.null, .null, .int 0, .int 0, .int 0]))] zsz)) (qc_CWr_init D k h0 qs qc (va_A [(h0, .inr (4, [.null, .null, .int 0, .int 0, .int 0]))] zsz)) 0 0 (va_A [(h0, .inr (4, [.null, .null, .int 0, .int 0, .int 0]))] zsz) := by
  refine kMet (ws := [(h0, .inr (4, [.null, .null, .int 0, .int 0, .int 0]))]) (Qc := qc_CWr_init D k h0 qs qc) (by decide) (Nat.le_of_ble_eq_true rfl) (fun p e s m below meth c ls A H Cc hP hD hA hS hl => ?_)
  obtain ⟨hx, hb, hml, hr, hlk, hown, hts, hK, hE, hin⟩ := Cc
  have hl : lv_has ls 3 [(0, .ref h0), (1, .ref qs), (2, .ref qc)] := hl
  refine lv_aload_n hx hb d_CWr_init_0 rfl (lv_at hl 0 rfl) ?_
  refine W.objInit hx hb hown (hts (.methodLink R_CWr 3 objectInit) mw_75) (hts (.instanceMethod objectInit) mw_3) (hts (.code objectInit ⟨#[0xb1]⟩ 1 none) mw_4) rfl (by rw [hml]; exact hl.1) rfl d_CWr_init_1 (Nat.le_of_ble_eq_true rfl) (Nat.le_of_ble_eq_true rfl) ?_
  refine W.eq (g2 := F0 m 4 ls []) rfl ?_
  refine lv_aload_n hx hb d_CWr_init_4 rfl (lv_at hl 0 rfl) ?_
  refine lv_aload_n hx hb d_CWr_init_5 rfl (lv_at hl 1 rfl) ?_
  refine va_putF (D := D) (ci := 4) (v := .ref qs) (ty := .object "LikelyBits$Segment") (C := R_CWr) (T := T_CWr) (N := 5) hx hb hts inw_CWr ty_CWr tyok_CWr nm_CWr hown hK hP hD hS 0 rfl rfl 0 (by decide) (hts (.fieldLink R_CWr 9 "LikelyBits$CodedWriter" "segment" "LLikelyBits$Segment;") mw_76) (fun _ h9 => h9) rfl hin rfl (by decide +kernel) rfl rfl (Nat.le_of_ble_eq_true rfl) d_CWr_init_6 (fun H locs hP hD hS => ?_)
  have hP : va_P D vwCl [(h0, .inr (4, [.ref qs, .null, .int 0, .int 0, .int 0]))] H := hP
  have hD : va_D A [(h0, .inr (4, [.ref qs, .null, .int 0, .int 0, .int 0]))] := hD
  refine lv_aload_n hx hb d_CWr_init_9 rfl (lv_at hl 0 rfl) ?_
  refine lv_aload_n hx hb d_CWr_init_10 rfl (lv_at hl 2 rfl) ?_
  refine va_putF (D := D) (ci := 4) (v := .ref qc) (ty := .object "LikelyBits$Contexts") (C := R_CWr) (T := T_CWr) (N := 5) hx hb hts inw_CWr ty_CWr tyok_CWr nm_CWr hown hK hP hD hS 0 rfl rfl 1 (by decide) (hts (.fieldLink R_CWr 15 "LikelyBits$CodedWriter" "contexts" "LLikelyBits$Contexts;") mw_77) (fun _ h9 => h9) rfl hin rfl (by decide +kernel) rfl rfl (Nat.le_of_ble_eq_true rfl) d_CWr_init_11 (fun H locs hP hD hS => ?_)
  have hP : va_P D vwCl [(h0, .inr (4, [.ref qs, .ref qc, .int 0, .int 0, .int 0]))] H := hP
  have hD : va_D A [(h0, .inr (4, [.ref qs, .ref qc, .int 0, .int 0, .int 0]))] := hD
  exact krv (wo := wo_CWr_init k h0 qs qc) hx hb hr hlk hP hD hS () () trivial trivial [0] rfl (by decide) (Nat.le_of_ble_eq_true rfl) (Nat.le_of_ble_eq_true rfl) d_CWr_init_14

def wo_CWr_begin (k : gK) (h0 : Nat) (qs : Nat) (qc : Nat) (lo : Int32) (sz : Int32) (rm : Int32) (zz : Unit) (uu : Unit) : va_W := match zz, uu with
  | _, _ => [(h0, .inr (4, [.ref qs, .ref qc, .int 0, .int 32768, .int 12]))]
def ex_CWr_begin (k : gK) (h0 : Nat) (qs : Nat) (qc : Nat) (lo : Int32) (sz : Int32) (rm : Int32) (zz : Unit) (uu : Unit) : Prop := match zz, uu with
  | _, _ => True
def po_CWr_begin (k : gK) (h0 : Nat) (qs : Nat) (qc : Nat) (lo : Int32) (sz : Int32) (rm : Int32) (uu : Unit) : Prop := match uu with
  | _ => True
def qc_CWr_begin (D : va_G) (k : gK) (h0 : Nat) (qs : Nat) (qc : Nat) (lo : Int32) (sz : Int32) (rm : Int32) (A : Nat → Prop) : Array Value → State → Outcome → State → Prop := va_Qv (po_CWr_begin k h0 qs qc lo sz rm) (fun uu t => ∃ zz, ex_CWr_begin k h0 qs qc lo sz rm zz uu ∧ GP D A (wo_CWr_begin k h0 qs qc lo sz rm zz uu) t) A
set_option maxHeartbeats 1000000 in
set_option maxRecDepth 100000 in
theorem c_CWr_begin (l : Launch) (hl9 : l.stackTraces = false) (D : va_G) (k : gK) (h0 : Nat) (zsz : Nat) (qs : Nat) (qc : Nat) (lo : Int32) (sz : Int32) (rm : Int32) : Met l y_CWr_begin (.code y_CWr_begin b_CWr_begin 1 none :: AW) ({ frames := 0, cells := 0, slots := 0, locals := 0 }) (va_Pc [.ref h0] (GG D k [(h0, .inr (4, [.ref qs, .ref qc, .int lo, .int sz, .int rm]))] zsz)) (qc_CWr_begin D k h0 qs qc lo sz rm (va_A [(h0, .inr (4, [.ref qs, .ref qc, .int lo, .int sz, .int rm]))] zsz)) 0 0 (va_A [(h0, .inr (4, [.ref qs, .ref qc, .int lo, .int sz, .int rm]))] zsz) := by
  refine kMet (ws := [(h0, .inr (4, [.ref qs, .ref qc, .int lo, .int sz, .int rm]))]) (Qc := qc_CWr_begin D k h0 qs qc lo sz rm) (by decide) (Nat.le_of_ble_eq_true rfl) (fun p e s m below meth c ls A H Cc hP hD hA hS hl => ?_)
  obtain ⟨hx, hb, hml, hr, hlk, hown, hts, hK, hE, hin⟩ := Cc
  have hl : lv_has ls 1 [(0, .ref h0)] := hl
  refine lv_aload_n hx hb d_CWr_begin_0 rfl (lv_at hl 0 rfl) ?_
  refine lv_iconst (v := 0) hx hb d_CWr_begin_1 (by decide) ?_
  refine va_put (D := D) (ci := 4) (v := .int 0) (ty := .int) (C := R_CWr) (T := T_CWr) (N := 5) hx hb hts inw_CWr ty_CWr tyok_CWr nm_CWr hown hK hP hD hS 0 rfl rfl 2 (by decide) (hts (.fieldLink R_CWr 19 "LikelyBits$CodedWriter" "low" "I") mw_78) (fun _ h9 => h9) rfl (by decide +kernel) rfl rfl (Nat.le_of_ble_eq_true rfl) d_CWr_begin_2 (fun H locs hP hD hS => ?_)
  have hP : va_P D vwCl [(h0, .inr (4, [.ref qs, .ref qc, .int 0, .int sz, .int rm]))] H := hP
  have hD : va_D A [(h0, .inr (4, [.ref qs, .ref qc, .int 0, .int sz, .int rm]))] := hD
  refine lv_aload_n hx hb d_CWr_begin_5 rfl (lv_at hl 0 rfl) ?_
  refine lv_ldc (v := 32768) hx hb hown (hts (.constant R_CWr 23 32768) mw_79) d_CWr_begin_6 ?_
  refine va_put (D := D) (ci := 4) (v := .int 32768) (ty := .int) (C := R_CWr) (T := T_CWr) (N := 5) hx hb hts inw_CWr ty_CWr tyok_CWr nm_CWr hown hK hP hD hS 0 rfl rfl 3 (by decide) (hts (.fieldLink R_CWr 24 "LikelyBits$CodedWriter" "size" "I") mw_80) (fun _ h9 => h9) rfl (by decide +kernel) rfl rfl (Nat.le_of_ble_eq_true rfl) d_CWr_begin_8 (fun H locs hP hD hS => ?_)
  have hP : va_P D vwCl [(h0, .inr (4, [.ref qs, .ref qc, .int 0, .int 32768, .int rm]))] H := hP
  have hD : va_D A [(h0, .inr (4, [.ref qs, .ref qc, .int 0, .int 32768, .int rm]))] := hD
  refine lv_aload_n hx hb d_CWr_begin_11 rfl (lv_at hl 0 rfl) ?_
  refine lv_bipush (v := 12) hx hb d_CWr_begin_12 (by decide) ?_
  refine va_put (D := D) (ci := 4) (v := .int 12) (ty := .int) (C := R_CWr) (T := T_CWr) (N := 5) hx hb hts inw_CWr ty_CWr tyok_CWr nm_CWr hown hK hP hD hS 0 rfl rfl 4 (by decide) (hts (.fieldLink R_CWr 27 "LikelyBits$CodedWriter" "room" "I") mw_81) (fun _ h9 => h9) rfl (by decide +kernel) rfl rfl (Nat.le_of_ble_eq_true rfl) d_CWr_begin_14 (fun H locs hP hD hS => ?_)
  have hP : va_P D vwCl [(h0, .inr (4, [.ref qs, .ref qc, .int 0, .int 32768, .int 12]))] H := hP
  have hD : va_D A [(h0, .inr (4, [.ref qs, .ref qc, .int 0, .int 32768, .int 12]))] := hD
  exact krv (wo := wo_CWr_begin k h0 qs qc lo sz rm) hx hb hr hlk hP hD hS () () trivial trivial [0] rfl (by decide) (Nat.le_of_ble_eq_true rfl) (Nat.le_of_ble_eq_true rfl) d_CWr_begin_17

def wo_CWr_byteOut (k : gK) (h0 qs qr qa : Nat) (qc : Nat) (lo : Int32) (sz : Int32) (rm : Int32) (a : Int32) (n : Nat) (f : Nat → Int32) (u : Int32) (L : List Int32) (zz : Nat × (Nat → Int32) × Int32) (uu : Int32 × Int32 × Nat × List Int32) : va_W := match zz, uu with
  | (q2, f2, u2), (lo2, rm2, n2, L2) => [(h0, .inr (4, [.ref qs, .ref qc, .int lo2, .int sz, .int rm2])), (qs, .inr (2, [.ref qr, .int a])), (qr, .inr (0, [.ref q2, .int u2])), (q2, .inl (k.1, n2, .inl f2))]
def ex_CWr_byteOut (k : gK) (h0 qs qr qa : Nat) (qc : Nat) (lo : Int32) (sz : Int32) (rm : Int32) (a : Int32) (n : Nat) (f : Nat → Int32) (u : Int32) (L : List Int32) (zz : Nat × (Nat → Int32) × Int32) (uu : Int32 × Int32 × Nat × List Int32) : Prop := match zz, uu with
  | (q2, f2, u2), (lo2, rm2, n2, L2) => row_ok n2 f2 u2 L2
def po_CWr_byteOut (k : gK) (h0 qs qr qa : Nat) (qc : Nat) (lo : Int32) (sz : Int32) (rm : Int32) (a : Int32) (n : Nat) (f : Nat → Int32) (u : Int32) (L : List Int32) (uu : Int32 × Int32 × Nat × List Int32) : Prop := match uu with
  | (lo2, rm2, n2, L2) => lo2 = (bo a lo n L).1 ∧ rm2 = (bo a lo n L).2.1 ∧ n2 = (bo a lo n L).2.2.1 ∧ L2 = (bo a lo n L).2.2.2
def qc_CWr_byteOut (D : va_G) (k : gK) (h0 qs qr qa : Nat) (qc : Nat) (lo : Int32) (sz : Int32) (rm : Int32) (a : Int32) (n : Nat) (f : Nat → Int32) (u : Int32) (L : List Int32) (A : Nat → Prop) : Array Value → State → Outcome → State → Prop := va_Qv (po_CWr_byteOut k h0 qs qr qa qc lo sz rm a n f u L) (fun uu t => ∃ zz, ex_CWr_byteOut k h0 qs qr qa qc lo sz rm a n f u L zz uu ∧ GP D A (wo_CWr_byteOut k h0 qs qr qa qc lo sz rm a n f u L zz uu) t) A
set_option maxHeartbeats 1000000 in
set_option maxRecDepth 100000 in
theorem c_CWr_byteOut (l : Launch) (hl9 : l.stackTraces = false) (D : va_G) (k : gK) (h0 qs qr qa : Nat) (zsz : Nat) (qc : Nat) (lo : Int32) (sz : Int32) (rm : Int32) (a : Int32) (n : Nat) (f : Nat → Int32) (u : Int32) (L : List Int32) (hR : row_ok n f u L) : Met l y_CWr_byteOut (.code y_CWr_byteOut b_CWr_byteOut 3 none :: AW) ({ frames := 4, cells := (bo a lo n L).2.2.1 - n, slots := 2 * ((bo a lo n L).2.2.1 - n), locals := 124 }) (va_Pc [.ref h0] (GG D k [(h0, .inr (4, [.ref qs, .ref qc, .int lo, .int sz, .int rm])), (qs, .inr (2, [.ref qr, .int a])), (qr, .inr (0, [.ref qa, .int u])), (qa, .inl (k.1, n, .inl f))] zsz)) (qc_CWr_byteOut D k h0 qs qr qa qc lo sz rm a n f u L (va_A [(h0, .inr (4, [.ref qs, .ref qc, .int lo, .int sz, .int rm])), (qs, .inr (2, [.ref qr, .int a])), (qr, .inr (0, [.ref qa, .int u])), (qa, .inl (k.1, n, .inl f))] zsz)) ((bo a lo n L).2.2.1 - n) (2 * ((bo a lo n L).2.2.1 - n)) (va_A [(h0, .inr (4, [.ref qs, .ref qc, .int lo, .int sz, .int rm])), (qs, .inr (2, [.ref qr, .int a])), (qr, .inr (0, [.ref qa, .int u])), (qa, .inl (k.1, n, .inl f))] zsz) := by
  refine kMet (ws := [(h0, .inr (4, [.ref qs, .ref qc, .int lo, .int sz, .int rm])), (qs, .inr (2, [.ref qr, .int a])), (qr, .inr (0, [.ref qa, .int u])), (qa, .inl (k.1, n, .inl f))]) (Qc := qc_CWr_byteOut D k h0 qs qr qa qc lo sz rm a n f u L) (by decide) (Nat.le_of_ble_eq_true rfl) (fun p e s m below meth c ls A H Cc hP hD hA hS hl => ?_)
  obtain ⟨hx, hb, hml, hr, hlk, hown, hts, hK, hE, hin⟩ := Cc
  have hl : lv_has ls 3 [(0, .ref h0)] := hl
  refine lv_aload_n hx hb d_CWr_byteOut_0 rfl (lv_at hl 0 rfl) ?_
  refine va_get (D := D) (ci := 4) (v := .ref qs) (C := R_CWr) (T := T_CWr) (N := 5) hx hb hts inw_CWr hown hK hP 0 rfl rfl 0 (by decide) (hts (.fieldLink R_CWr 9 "LikelyBits$CodedWriter" "segment" "LLikelyBits$Segment;") mw_76) (fun _ h9 => h9) rfl d_CWr_byteOut_1 ?_
  refine kqi (va_runV (As := []) (rest := []) ⟨hx, hb, hml, hown, hts⟩ (c_Seg_last l hl9 D k qs qr qa a n f u L (by assumption)) (cwV 0 hts (gV mw_82 mw_68 mw_69 mw_53 mw_70) rfl rfl rfl (by decide +kernel) ⟨(Nat.le_of_ble_eq_true rfl), (Nat.le_of_ble_eq_true rfl)⟩) (kRecv (q := (R_Seg, T_Seg, 2)) (q0 := 1) (ci := 2) hK hP rfl rfl (kPreR (wc := [(qs, .inr (2, [.ref qr, .int a])), (qr, .inr (0, [.ref qa, .int u])), (qa, .inl (k.1, n, .inl f))]) hE hK hP hS [1, 2, 3] rfl)) rfl rfl hl.1 rfl (lv_room (Nat.le_of_ble_eq_true rfl)) d_CWr_byteOut_4 ⟨(Nat.le_of_ble_eq_true rfl), (Nat.le_of_ble_eq_true rfl)⟩) hP hS (fun r1 H locs hw hP hS => ?_)
  replace hw := hw.symm
  subst hw
  refine lv_topi (fun x2 ex2 => ?_)
  refine lv_istore_n (lv' := [(1, .int x2), (0, .ref h0)]) hx hb d_CWr_byteOut_7 rfl hl (by decide) rfl (fun ls hl => ?_)
  refine lv_iload_n hx hb d_CWr_byteOut_8 rfl (lv_at hl 0 rfl) ?_
  refine lv_iconst (v := -1) hx hb d_CWr_byteOut_9 (by decide) ?_
  refine lv_icmp_eq (tgt := 51) hx hb d_CWr_byteOut_10 (by decide) (fun c3 => ?_) (fun c3 => ?_)
  · refine lv_aload_n hx hb d_CWr_byteOut_51 rfl (lv_at hl 1 rfl) ?_
    refine lv_iload_n hx hb d_CWr_byteOut_52 rfl (lv_at hl 0 rfl) ?_
    refine lv_sipush (v := 255) hx hb d_CWr_byteOut_53 (by decide) ?_
    refine lv_icmp_ne (tgt := 64) hx hb d_CWr_byteOut_56 (by decide) (fun c4 => ?_) (fun c4 => ?_)
    · refine lv_bipush (v := 8) hx hb d_CWr_byteOut_64 (by decide) ?_
      refine va_put (D := D) (ci := 4) (v := .int 8) (ty := .int) (C := R_CWr) (T := T_CWr) (N := 5) hx hb hts inw_CWr ty_CWr tyok_CWr nm_CWr hown hK hP hD hS 0 rfl rfl 4 (by decide) (hts (.fieldLink R_CWr 27 "LikelyBits$CodedWriter" "room" "I") mw_81) (fun _ h9 => h9) rfl (by decide +kernel) rfl rfl (Nat.le_of_ble_eq_true rfl) d_CWr_byteOut_66 (fun H locs hP hD hS => ?_)
      have hP : va_P D vwCl [(h0, .inr (4, [.ref qs, .ref qc, .int lo, .int sz, .int 8])), (qs, .inr (2, [.ref qr, .int a])), (qr, .inr (0, [.ref qa, .int u])), (qa, .inl (k.1, n, .inl f))] H := hP
      have hD : va_D A [(h0, .inr (4, [.ref qs, .ref qc, .int lo, .int sz, .int 8])), (qs, .inr (2, [.ref qr, .int a])), (qr, .inr (0, [.ref qa, .int u])), (qa, .inl (k.1, n, .inl f))] := hD
      refine lv_bipush (v := 27) hx hb d_CWr_byteOut_69 (by decide) ?_
      refine lv_aload_n hx hb d_CWr_byteOut_71 rfl (lv_at hl 1 rfl) ?_
      refine va_get (D := D) (ci := 4) (v := .int 8) (C := R_CWr) (T := T_CWr) (N := 5) hx hb hts inw_CWr hown hK hP 0 rfl rfl 4 (by decide) (hts (.fieldLink R_CWr 27 "LikelyBits$CodedWriter" "room" "I") mw_81) (fun _ h9 => h9) rfl d_CWr_byteOut_72 ?_
      refine lv_isub hx hb d_CWr_byteOut_75 ?_
      refine lv_topi (fun x5 ex5 => ?_)
      refine lv_istore_n (lv' := [(2, .int x5), (1, .int x2), (0, .ref h0)]) hx hb d_CWr_byteOut_76 rfl hl (by decide) rfl (fun ls hl => ?_)
      refine lv_aload_n hx hb d_CWr_byteOut_77 rfl (lv_at hl 2 rfl) ?_
      refine va_get (D := D) (ci := 4) (v := .ref qs) (C := R_CWr) (T := T_CWr) (N := 5) hx hb hts inw_CWr hown hK hP 0 rfl rfl 0 (by decide) (hts (.fieldLink R_CWr 9 "LikelyBits$CodedWriter" "segment" "LLikelyBits$Segment;") mw_76) (fun _ h9 => h9) rfl d_CWr_byteOut_78 ?_
      refine lv_aload_n hx hb d_CWr_byteOut_81 rfl (lv_at hl 2 rfl) ?_
      refine va_get (D := D) (ci := 4) (v := .int lo) (C := R_CWr) (T := T_CWr) (N := 5) hx hb hts inw_CWr hown hK hP 0 rfl rfl 2 (by decide) (hts (.fieldLink R_CWr 19 "LikelyBits$CodedWriter" "low" "I") mw_78) (fun _ h9 => h9) rfl d_CWr_byteOut_82 ?_
      refine lv_iload_n hx hb d_CWr_byteOut_85 rfl (lv_at hl 0 rfl) ?_
      refine lv_iushr (v := jushr lo x5) hx hb d_CWr_byteOut_86 rfl ?_
      refine lv_sipush (v := 255) hx hb d_CWr_byteOut_87 (by decide) ?_
      refine lv_iand hx hb d_CWr_byteOut_90 ?_
      have hbn : (bo a lo n L).2.2.1 = apn n L := (by subst ex5; subst ex2; simp [bo, bo2, bo3, c3, c4])
      refine kcv (wc := [(qs, .inr (2, [.ref qr, .int a])), (qr, .inr (0, [.ref qa, .int u])), (qa, .inl (k.1, n, .inl f))]) (wr := [(h0, .inr (4, [.ref qs, .ref qc, .int lo, .int sz, .int 8]))]) (va_runV (As := [.int ((jushr lo x5) &&& 255)]) (rest := []) ⟨hx, hb, hml, hown, hts⟩ (c_Seg_append l hl9 D k qs qr qa H.size a n f u L ((jushr lo x5) &&& 255) (by assumption)) (cwV 1 hts (gV mw_83 mw_84 mw_85 mw_53 mw_86) rfl rfl rfl (by decide +kernel) ⟨(Nat.le_of_ble_eq_true rfl), (Nat.le_of_ble_eq_true rfl)⟩) (kRecv (q := (R_Seg, T_Seg, 2)) (q0 := 1) (ci := 2) hK hP rfl rfl (kPre (wc := [(qs, .inr (2, [.ref qr, .int a])), (qr, .inr (0, [.ref qa, .int u])), (qa, .inl (k.1, n, .inl f))]) hE hK hP hD hS hA [1, 2, 3] rfl (by decide))) rfl rfl hl.1 rfl (lv_room (Nat.le_of_ble_eq_true rfl)) d_CWr_byteOut_91 ⟨(by first | omega | (dsimp only; omega)), (by first | omega | (dsimp only; omega))⟩) hP hD hS hA [1, 2, 3] [0] rfl rfl (by decide) (by decide) (fun zz uu H locs hw12 hz13 hP hD hS => ?_)
      obtain ⟨q_8, f_9, u_10⟩ := zz
      obtain ⟨n_6, L_7⟩ := uu
      have hw12 : n_6 = apn n L ∧ L_7 = app L ((jushr lo x5) &&& 255) := hw12
      have hz13 : row_ok n_6 f_9 u_10 L_7 := hz13
      have hP : va_P D vwCl [(h0, .inr (4, [.ref qs, .ref qc, .int lo, .int sz, .int 8])), (qs, .inr (2, [.ref qr, .int a])), (qr, .inr (0, [.ref q_8, .int u_10])), (q_8, .inl (k.1, n_6, .inl f_9))] H := hP
      have hD : va_D A [(h0, .inr (4, [.ref qs, .ref qc, .int lo, .int sz, .int 8])), (qs, .inr (2, [.ref qr, .int a])), (qr, .inr (0, [.ref q_8, .int u_10])), (q_8, .inl (k.1, n_6, .inl f_9))] := hD
      refine lv_aload_n hx hb d_CWr_byteOut_94 rfl (lv_at hl 2 rfl) ?_
      refine lv_dup hx hb d_CWr_byteOut_95 rfl ?_
      refine va_get (D := D) (ci := 4) (v := .int lo) (C := R_CWr) (T := T_CWr) (N := 5) hx hb hts inw_CWr hown hK hP 0 rfl rfl 2 (by decide) (hts (.fieldLink R_CWr 19 "LikelyBits$CodedWriter" "low" "I") mw_78) (fun _ h9 => h9) rfl d_CWr_byteOut_96 ?_
      refine lv_iconst (v := 1) hx hb d_CWr_byteOut_99 (by decide) ?_
      refine lv_iload_n hx hb d_CWr_byteOut_100 rfl (lv_at hl 0 rfl) ?_
      refine lv_ishl hx hb d_CWr_byteOut_101 ?_
      refine lv_iconst (v := 1) hx hb d_CWr_byteOut_102 (by decide) ?_
      refine lv_isub hx hb d_CWr_byteOut_103 ?_
      refine lv_iand hx hb d_CWr_byteOut_104 ?_
      refine lv_topi (fun x14 ex14 => ?_)
      refine va_put (D := D) (ci := 4) (v := .int x14) (ty := .int) (C := R_CWr) (T := T_CWr) (N := 5) hx hb hts inw_CWr ty_CWr tyok_CWr nm_CWr hown hK hP hD hS 0 rfl rfl 2 (by decide) (hts (.fieldLink R_CWr 19 "LikelyBits$CodedWriter" "low" "I") mw_78) (fun _ h9 => h9) rfl (by decide +kernel) rfl rfl (Nat.le_of_ble_eq_true rfl) d_CWr_byteOut_105 (fun H locs hP hD hS => ?_)
      have hP : va_P D vwCl [(h0, .inr (4, [.ref qs, .ref qc, .int x14, .int sz, .int 8])), (qs, .inr (2, [.ref qr, .int a])), (qr, .inr (0, [.ref q_8, .int u_10])), (q_8, .inl (k.1, n_6, .inl f_9))] H := hP
      have hD : va_D A [(h0, .inr (4, [.ref qs, .ref qc, .int x14, .int sz, .int 8])), (qs, .inr (2, [.ref qr, .int a])), (qr, .inr (0, [.ref q_8, .int u_10])), (q_8, .inl (k.1, n_6, .inl f_9))] := hD
      exact krv (wo := wo_CWr_byteOut k h0 qs qr qa qc lo sz rm a n f u L) hx hb hr hlk hP hD hS (x14, 8, n_6, L_7) (q_8, f_9, u_10) (by subst ex14; obtain ⟨rfl, rfl⟩ := hw12; subst ex5; subst ex2; simp [po_CWr_byteOut, bo, bo2, bo3, c3, c4]) (by assumption) [0, 1, 2, 3] rfl (by decide) (by first | omega | (dsimp only; omega)) (by first | omega | (dsimp only; omega)) d_CWr_byteOut_108
    · exact absurd (c3.symm.trans c4) (by decide)
  · refine lv_iload_n hx hb d_CWr_byteOut_13 rfl (lv_at hl 0 rfl) ?_
    refine lv_sipush (v := 255) hx hb d_CWr_byteOut_14 (by decide) ?_
    refine lv_icmp_eq (tgt := 51) hx hb d_CWr_byteOut_17 (by decide) (fun c15 => ?_) (fun c15 => ?_)
    · refine lv_aload_n hx hb d_CWr_byteOut_51 rfl (lv_at hl 1 rfl) ?_
      refine lv_iload_n hx hb d_CWr_byteOut_52 rfl (lv_at hl 0 rfl) ?_
      refine lv_sipush (v := 255) hx hb d_CWr_byteOut_53 (by decide) ?_
      refine lv_icmp_ne (tgt := 64) hx hb d_CWr_byteOut_56 (by decide) (fun c16 => ?_) (fun c16 => ?_)
      · exact absurd c15 c16
      · refine lv_bipush (v := 7) hx hb d_CWr_byteOut_59 (by decide) ?_
        refine lv_goto (tgt := 66) hx hb d_CWr_byteOut_61 (by decide) ?_
        refine va_put (D := D) (ci := 4) (v := .int 7) (ty := .int) (C := R_CWr) (T := T_CWr) (N := 5) hx hb hts inw_CWr ty_CWr tyok_CWr nm_CWr hown hK hP hD hS 0 rfl rfl 4 (by decide) (hts (.fieldLink R_CWr 27 "LikelyBits$CodedWriter" "room" "I") mw_81) (fun _ h9 => h9) rfl (by decide +kernel) rfl rfl (Nat.le_of_ble_eq_true rfl) d_CWr_byteOut_66 (fun H locs hP hD hS => ?_)
        have hP : va_P D vwCl [(h0, .inr (4, [.ref qs, .ref qc, .int lo, .int sz, .int 7])), (qs, .inr (2, [.ref qr, .int a])), (qr, .inr (0, [.ref qa, .int u])), (qa, .inl (k.1, n, .inl f))] H := hP
        have hD : va_D A [(h0, .inr (4, [.ref qs, .ref qc, .int lo, .int sz, .int 7])), (qs, .inr (2, [.ref qr, .int a])), (qr, .inr (0, [.ref qa, .int u])), (qa, .inl (k.1, n, .inl f))] := hD
        refine lv_bipush (v := 27) hx hb d_CWr_byteOut_69 (by decide) ?_
        refine lv_aload_n hx hb d_CWr_byteOut_71 rfl (lv_at hl 1 rfl) ?_
        refine va_get (D := D) (ci := 4) (v := .int 7) (C := R_CWr) (T := T_CWr) (N := 5) hx hb hts inw_CWr hown hK hP 0 rfl rfl 4 (by decide) (hts (.fieldLink R_CWr 27 "LikelyBits$CodedWriter" "room" "I") mw_81) (fun _ h9 => h9) rfl d_CWr_byteOut_72 ?_
        refine lv_isub hx hb d_CWr_byteOut_75 ?_
        refine lv_topi (fun x17 ex17 => ?_)
        refine lv_istore_n (lv' := [(2, .int x17), (1, .int x2), (0, .ref h0)]) hx hb d_CWr_byteOut_76 rfl hl (by decide) rfl (fun ls hl => ?_)
        refine lv_aload_n hx hb d_CWr_byteOut_77 rfl (lv_at hl 2 rfl) ?_
        refine va_get (D := D) (ci := 4) (v := .ref qs) (C := R_CWr) (T := T_CWr) (N := 5) hx hb hts inw_CWr hown hK hP 0 rfl rfl 0 (by decide) (hts (.fieldLink R_CWr 9 "LikelyBits$CodedWriter" "segment" "LLikelyBits$Segment;") mw_76) (fun _ h9 => h9) rfl d_CWr_byteOut_78 ?_
        refine lv_aload_n hx hb d_CWr_byteOut_81 rfl (lv_at hl 2 rfl) ?_
        refine va_get (D := D) (ci := 4) (v := .int lo) (C := R_CWr) (T := T_CWr) (N := 5) hx hb hts inw_CWr hown hK hP 0 rfl rfl 2 (by decide) (hts (.fieldLink R_CWr 19 "LikelyBits$CodedWriter" "low" "I") mw_78) (fun _ h9 => h9) rfl d_CWr_byteOut_82 ?_
        refine lv_iload_n hx hb d_CWr_byteOut_85 rfl (lv_at hl 0 rfl) ?_
        refine lv_iushr (v := jushr lo x17) hx hb d_CWr_byteOut_86 rfl ?_
        refine lv_sipush (v := 255) hx hb d_CWr_byteOut_87 (by decide) ?_
        refine lv_iand hx hb d_CWr_byteOut_90 ?_
        have hbn : (bo a lo n L).2.2.1 = apn n L := (by subst ex17; subst ex2; simp [bo, bo2, bo3, c3, c15, c16])
        refine kcv (wc := [(qs, .inr (2, [.ref qr, .int a])), (qr, .inr (0, [.ref qa, .int u])), (qa, .inl (k.1, n, .inl f))]) (wr := [(h0, .inr (4, [.ref qs, .ref qc, .int lo, .int sz, .int 7]))]) (va_runV (As := [.int ((jushr lo x17) &&& 255)]) (rest := []) ⟨hx, hb, hml, hown, hts⟩ (c_Seg_append l hl9 D k qs qr qa H.size a n f u L ((jushr lo x17) &&& 255) (by assumption)) (cwV 1 hts (gV mw_83 mw_84 mw_85 mw_53 mw_86) rfl rfl rfl (by decide +kernel) ⟨(Nat.le_of_ble_eq_true rfl), (Nat.le_of_ble_eq_true rfl)⟩) (kRecv (q := (R_Seg, T_Seg, 2)) (q0 := 1) (ci := 2) hK hP rfl rfl (kPre (wc := [(qs, .inr (2, [.ref qr, .int a])), (qr, .inr (0, [.ref qa, .int u])), (qa, .inl (k.1, n, .inl f))]) hE hK hP hD hS hA [1, 2, 3] rfl (by decide))) rfl rfl hl.1 rfl (lv_room (Nat.le_of_ble_eq_true rfl)) d_CWr_byteOut_91 ⟨(by first | omega | (dsimp only; omega)), (by first | omega | (dsimp only; omega))⟩) hP hD hS hA [1, 2, 3] [0] rfl rfl (by decide) (by decide) (fun zz uu H locs hw24 hz25 hP hD hS => ?_)
        obtain ⟨q_20, f_21, u_22⟩ := zz
        obtain ⟨n_18, L_19⟩ := uu
        have hw24 : n_18 = apn n L ∧ L_19 = app L ((jushr lo x17) &&& 255) := hw24
        have hz25 : row_ok n_18 f_21 u_22 L_19 := hz25
        have hP : va_P D vwCl [(h0, .inr (4, [.ref qs, .ref qc, .int lo, .int sz, .int 7])), (qs, .inr (2, [.ref qr, .int a])), (qr, .inr (0, [.ref q_20, .int u_22])), (q_20, .inl (k.1, n_18, .inl f_21))] H := hP
        have hD : va_D A [(h0, .inr (4, [.ref qs, .ref qc, .int lo, .int sz, .int 7])), (qs, .inr (2, [.ref qr, .int a])), (qr, .inr (0, [.ref q_20, .int u_22])), (q_20, .inl (k.1, n_18, .inl f_21))] := hD
        refine lv_aload_n hx hb d_CWr_byteOut_94 rfl (lv_at hl 2 rfl) ?_
        refine lv_dup hx hb d_CWr_byteOut_95 rfl ?_
        refine va_get (D := D) (ci := 4) (v := .int lo) (C := R_CWr) (T := T_CWr) (N := 5) hx hb hts inw_CWr hown hK hP 0 rfl rfl 2 (by decide) (hts (.fieldLink R_CWr 19 "LikelyBits$CodedWriter" "low" "I") mw_78) (fun _ h9 => h9) rfl d_CWr_byteOut_96 ?_
        refine lv_iconst (v := 1) hx hb d_CWr_byteOut_99 (by decide) ?_
        refine lv_iload_n hx hb d_CWr_byteOut_100 rfl (lv_at hl 0 rfl) ?_
        refine lv_ishl hx hb d_CWr_byteOut_101 ?_
        refine lv_iconst (v := 1) hx hb d_CWr_byteOut_102 (by decide) ?_
        refine lv_isub hx hb d_CWr_byteOut_103 ?_
        refine lv_iand hx hb d_CWr_byteOut_104 ?_
        refine lv_topi (fun x26 ex26 => ?_)
        refine va_put (D := D) (ci := 4) (v := .int x26) (ty := .int) (C := R_CWr) (T := T_CWr) (N := 5) hx hb hts inw_CWr ty_CWr tyok_CWr nm_CWr hown hK hP hD hS 0 rfl rfl 2 (by decide) (hts (.fieldLink R_CWr 19 "LikelyBits$CodedWriter" "low" "I") mw_78) (fun _ h9 => h9) rfl (by decide +kernel) rfl rfl (Nat.le_of_ble_eq_true rfl) d_CWr_byteOut_105 (fun H locs hP hD hS => ?_)
        have hP : va_P D vwCl [(h0, .inr (4, [.ref qs, .ref qc, .int x26, .int sz, .int 7])), (qs, .inr (2, [.ref qr, .int a])), (qr, .inr (0, [.ref q_20, .int u_22])), (q_20, .inl (k.1, n_18, .inl f_21))] H := hP
        have hD : va_D A [(h0, .inr (4, [.ref qs, .ref qc, .int x26, .int sz, .int 7])), (qs, .inr (2, [.ref qr, .int a])), (qr, .inr (0, [.ref q_20, .int u_22])), (q_20, .inl (k.1, n_18, .inl f_21))] := hD
        exact krv (wo := wo_CWr_byteOut k h0 qs qr qa qc lo sz rm a n f u L) hx hb hr hlk hP hD hS (x26, 7, n_18, L_19) (q_20, f_21, u_22) (by subst ex26; obtain ⟨rfl, rfl⟩ := hw24; subst ex17; subst ex2; simp [po_CWr_byteOut, bo, bo2, bo3, c3, c15, c16]) (by assumption) [0, 1, 2, 3] rfl (by decide) (by first | omega | (dsimp only; omega)) (by first | omega | (dsimp only; omega)) d_CWr_byteOut_108
    · refine lv_aload_n hx hb d_CWr_byteOut_20 rfl (lv_at hl 1 rfl) ?_
      refine va_get (D := D) (ci := 4) (v := .int lo) (C := R_CWr) (T := T_CWr) (N := 5) hx hb hts inw_CWr hown hK hP 0 rfl rfl 2 (by decide) (hts (.fieldLink R_CWr 19 "LikelyBits$CodedWriter" "low" "I") mw_78) (fun _ h9 => h9) rfl d_CWr_byteOut_21 ?_
      refine lv_ldc (v := 134217728) hx hb hown (hts (.constant R_CWr 65 134217728) mw_87) d_CWr_byteOut_24 ?_
      refine lv_icmp_lt (tgt := 51) hx hb d_CWr_byteOut_26 (by decide) (fun c27 => ?_) (fun c27 => ?_)
      · refine lv_aload_n hx hb d_CWr_byteOut_51 rfl (lv_at hl 1 rfl) ?_
        refine lv_iload_n hx hb d_CWr_byteOut_52 rfl (lv_at hl 0 rfl) ?_
        refine lv_sipush (v := 255) hx hb d_CWr_byteOut_53 (by decide) ?_
        refine lv_icmp_ne (tgt := 64) hx hb d_CWr_byteOut_56 (by decide) (fun c28 => ?_) (fun c28 => ?_)
        · refine lv_bipush (v := 8) hx hb d_CWr_byteOut_64 (by decide) ?_
          refine va_put (D := D) (ci := 4) (v := .int 8) (ty := .int) (C := R_CWr) (T := T_CWr) (N := 5) hx hb hts inw_CWr ty_CWr tyok_CWr nm_CWr hown hK hP hD hS 0 rfl rfl 4 (by decide) (hts (.fieldLink R_CWr 27 "LikelyBits$CodedWriter" "room" "I") mw_81) (fun _ h9 => h9) rfl (by decide +kernel) rfl rfl (Nat.le_of_ble_eq_true rfl) d_CWr_byteOut_66 (fun H locs hP hD hS => ?_)
          have hP : va_P D vwCl [(h0, .inr (4, [.ref qs, .ref qc, .int lo, .int sz, .int 8])), (qs, .inr (2, [.ref qr, .int a])), (qr, .inr (0, [.ref qa, .int u])), (qa, .inl (k.1, n, .inl f))] H := hP
          have hD : va_D A [(h0, .inr (4, [.ref qs, .ref qc, .int lo, .int sz, .int 8])), (qs, .inr (2, [.ref qr, .int a])), (qr, .inr (0, [.ref qa, .int u])), (qa, .inl (k.1, n, .inl f))] := hD
          refine lv_bipush (v := 27) hx hb d_CWr_byteOut_69 (by decide) ?_
          refine lv_aload_n hx hb d_CWr_byteOut_71 rfl (lv_at hl 1 rfl) ?_
          refine va_get (D := D) (ci := 4) (v := .int 8) (C := R_CWr) (T := T_CWr) (N := 5) hx hb hts inw_CWr hown hK hP 0 rfl rfl 4 (by decide) (hts (.fieldLink R_CWr 27 "LikelyBits$CodedWriter" "room" "I") mw_81) (fun _ h9 => h9) rfl d_CWr_byteOut_72 ?_
          refine lv_isub hx hb d_CWr_byteOut_75 ?_
          refine lv_topi (fun x29 ex29 => ?_)
          refine lv_istore_n (lv' := [(2, .int x29), (1, .int x2), (0, .ref h0)]) hx hb d_CWr_byteOut_76 rfl hl (by decide) rfl (fun ls hl => ?_)
          refine lv_aload_n hx hb d_CWr_byteOut_77 rfl (lv_at hl 2 rfl) ?_
          refine va_get (D := D) (ci := 4) (v := .ref qs) (C := R_CWr) (T := T_CWr) (N := 5) hx hb hts inw_CWr hown hK hP 0 rfl rfl 0 (by decide) (hts (.fieldLink R_CWr 9 "LikelyBits$CodedWriter" "segment" "LLikelyBits$Segment;") mw_76) (fun _ h9 => h9) rfl d_CWr_byteOut_78 ?_
          refine lv_aload_n hx hb d_CWr_byteOut_81 rfl (lv_at hl 2 rfl) ?_
          refine va_get (D := D) (ci := 4) (v := .int lo) (C := R_CWr) (T := T_CWr) (N := 5) hx hb hts inw_CWr hown hK hP 0 rfl rfl 2 (by decide) (hts (.fieldLink R_CWr 19 "LikelyBits$CodedWriter" "low" "I") mw_78) (fun _ h9 => h9) rfl d_CWr_byteOut_82 ?_
          refine lv_iload_n hx hb d_CWr_byteOut_85 rfl (lv_at hl 0 rfl) ?_
          refine lv_iushr (v := jushr lo x29) hx hb d_CWr_byteOut_86 rfl ?_
          refine lv_sipush (v := 255) hx hb d_CWr_byteOut_87 (by decide) ?_
          refine lv_iand hx hb d_CWr_byteOut_90 ?_
          have hbn : (bo a lo n L).2.2.1 = apn n L := (by subst ex29; subst ex2; simp [bo, bo2, bo3, c3, c15, c27, c28])
          refine kcv (wc := [(qs, .inr (2, [.ref qr, .int a])), (qr, .inr (0, [.ref qa, .int u])), (qa, .inl (k.1, n, .inl f))]) (wr := [(h0, .inr (4, [.ref qs, .ref qc, .int lo, .int sz, .int 8]))]) (va_runV (As := [.int ((jushr lo x29) &&& 255)]) (rest := []) ⟨hx, hb, hml, hown, hts⟩ (c_Seg_append l hl9 D k qs qr qa H.size a n f u L ((jushr lo x29) &&& 255) (by assumption)) (cwV 1 hts (gV mw_83 mw_84 mw_85 mw_53 mw_86) rfl rfl rfl (by decide +kernel) ⟨(Nat.le_of_ble_eq_true rfl), (Nat.le_of_ble_eq_true rfl)⟩) (kRecv (q := (R_Seg, T_Seg, 2)) (q0 := 1) (ci := 2) hK hP rfl rfl (kPre (wc := [(qs, .inr (2, [.ref qr, .int a])), (qr, .inr (0, [.ref qa, .int u])), (qa, .inl (k.1, n, .inl f))]) hE hK hP hD hS hA [1, 2, 3] rfl (by decide))) rfl rfl hl.1 rfl (lv_room (Nat.le_of_ble_eq_true rfl)) d_CWr_byteOut_91 ⟨(by first | omega | (dsimp only; omega)), (by first | omega | (dsimp only; omega))⟩) hP hD hS hA [1, 2, 3] [0] rfl rfl (by decide) (by decide) (fun zz uu H locs hw36 hz37 hP hD hS => ?_)
          obtain ⟨q_32, f_33, u_34⟩ := zz
          obtain ⟨n_30, L_31⟩ := uu
          have hw36 : n_30 = apn n L ∧ L_31 = app L ((jushr lo x29) &&& 255) := hw36
          have hz37 : row_ok n_30 f_33 u_34 L_31 := hz37
          have hP : va_P D vwCl [(h0, .inr (4, [.ref qs, .ref qc, .int lo, .int sz, .int 8])), (qs, .inr (2, [.ref qr, .int a])), (qr, .inr (0, [.ref q_32, .int u_34])), (q_32, .inl (k.1, n_30, .inl f_33))] H := hP
          have hD : va_D A [(h0, .inr (4, [.ref qs, .ref qc, .int lo, .int sz, .int 8])), (qs, .inr (2, [.ref qr, .int a])), (qr, .inr (0, [.ref q_32, .int u_34])), (q_32, .inl (k.1, n_30, .inl f_33))] := hD
          refine lv_aload_n hx hb d_CWr_byteOut_94 rfl (lv_at hl 2 rfl) ?_
          refine lv_dup hx hb d_CWr_byteOut_95 rfl ?_
          refine va_get (D := D) (ci := 4) (v := .int lo) (C := R_CWr) (T := T_CWr) (N := 5) hx hb hts inw_CWr hown hK hP 0 rfl rfl 2 (by decide) (hts (.fieldLink R_CWr 19 "LikelyBits$CodedWriter" "low" "I") mw_78) (fun _ h9 => h9) rfl d_CWr_byteOut_96 ?_
          refine lv_iconst (v := 1) hx hb d_CWr_byteOut_99 (by decide) ?_
          refine lv_iload_n hx hb d_CWr_byteOut_100 rfl (lv_at hl 0 rfl) ?_
          refine lv_ishl hx hb d_CWr_byteOut_101 ?_
          refine lv_iconst (v := 1) hx hb d_CWr_byteOut_102 (by decide) ?_
          refine lv_isub hx hb d_CWr_byteOut_103 ?_
          refine lv_iand hx hb d_CWr_byteOut_104 ?_
          refine lv_topi (fun x38 ex38 => ?_)
          refine va_put (D := D) (ci := 4) (v := .int x38) (ty := .int) (C := R_CWr) (T := T_CWr) (N := 5) hx hb hts inw_CWr ty_CWr tyok_CWr nm_CWr hown hK hP hD hS 0 rfl rfl 2 (by decide) (hts (.fieldLink R_CWr 19 "LikelyBits$CodedWriter" "low" "I") mw_78) (fun _ h9 => h9) rfl (by decide +kernel) rfl rfl (Nat.le_of_ble_eq_true rfl) d_CWr_byteOut_105 (fun H locs hP hD hS => ?_)
          have hP : va_P D vwCl [(h0, .inr (4, [.ref qs, .ref qc, .int x38, .int sz, .int 8])), (qs, .inr (2, [.ref qr, .int a])), (qr, .inr (0, [.ref q_32, .int u_34])), (q_32, .inl (k.1, n_30, .inl f_33))] H := hP
          have hD : va_D A [(h0, .inr (4, [.ref qs, .ref qc, .int x38, .int sz, .int 8])), (qs, .inr (2, [.ref qr, .int a])), (qr, .inr (0, [.ref q_32, .int u_34])), (q_32, .inl (k.1, n_30, .inl f_33))] := hD
          exact krv (wo := wo_CWr_byteOut k h0 qs qr qa qc lo sz rm a n f u L) hx hb hr hlk hP hD hS (x38, 8, n_30, L_31) (q_32, f_33, u_34) (by subst ex38; obtain ⟨rfl, rfl⟩ := hw36; subst ex29; subst ex2; simp [po_CWr_byteOut, bo, bo2, bo3, c3, c15, c27, c28]) (by assumption) [0, 1, 2, 3] rfl (by decide) (by first | omega | (dsimp only; omega)) (by first | omega | (dsimp only; omega)) d_CWr_byteOut_108
        · exact absurd c28 c15
      · refine lv_aload_n hx hb d_CWr_byteOut_29 rfl (lv_at hl 1 rfl) ?_
        refine lv_dup hx hb d_CWr_byteOut_30 rfl ?_
        refine va_get (D := D) (ci := 4) (v := .int lo) (C := R_CWr) (T := T_CWr) (N := 5) hx hb hts inw_CWr hown hK hP 0 rfl rfl 2 (by decide) (hts (.fieldLink R_CWr 19 "LikelyBits$CodedWriter" "low" "I") mw_78) (fun _ h9 => h9) rfl d_CWr_byteOut_31 ?_
        refine lv_ldc (v := 134217728) hx hb hown (hts (.constant R_CWr 65 134217728) mw_87) d_CWr_byteOut_34 ?_
        refine lv_isub hx hb d_CWr_byteOut_36 ?_
        refine lv_topi (fun x39 ex39 => ?_)
        refine va_put (D := D) (ci := 4) (v := .int x39) (ty := .int) (C := R_CWr) (T := T_CWr) (N := 5) hx hb hts inw_CWr ty_CWr tyok_CWr nm_CWr hown hK hP hD hS 0 rfl rfl 2 (by decide) (hts (.fieldLink R_CWr 19 "LikelyBits$CodedWriter" "low" "I") mw_78) (fun _ h9 => h9) rfl (by decide +kernel) rfl rfl (Nat.le_of_ble_eq_true rfl) d_CWr_byteOut_37 (fun H locs hP hD hS => ?_)
        have hP : va_P D vwCl [(h0, .inr (4, [.ref qs, .ref qc, .int x39, .int sz, .int rm])), (qs, .inr (2, [.ref qr, .int a])), (qr, .inr (0, [.ref qa, .int u])), (qa, .inl (k.1, n, .inl f))] H := hP
        have hD : va_D A [(h0, .inr (4, [.ref qs, .ref qc, .int x39, .int sz, .int rm])), (qs, .inr (2, [.ref qr, .int a])), (qr, .inr (0, [.ref qa, .int u])), (qa, .inl (k.1, n, .inl f))] := hD
        obtain ⟨x40, ex40⟩ : ∃ y : Int32, y = x2 + 1 := ⟨_, rfl⟩
        refine lv_iinc (v := x40) (lv' := [(1, .int x40), (0, .ref h0)]) hx hb d_CWr_byteOut_40 hl (k := 0) rfl (by rw [ex40]; rfl) (by decide) rfl (fun ls hl => ?_)
        refine lv_aload_n hx hb d_CWr_byteOut_43 rfl (lv_at hl 1 rfl) ?_
        refine va_get (D := D) (ci := 4) (v := .ref qs) (C := R_CWr) (T := T_CWr) (N := 5) hx hb hts inw_CWr hown hK hP 0 rfl rfl 0 (by decide) (hts (.fieldLink R_CWr 9 "LikelyBits$CodedWriter" "segment" "LLikelyBits$Segment;") mw_76) (fun _ h9 => h9) rfl d_CWr_byteOut_44 ?_
        refine lv_iload_n hx hb d_CWr_byteOut_47 rfl (lv_at hl 0 rfl) ?_
        refine kcv (wc := [(qs, .inr (2, [.ref qr, .int a])), (qr, .inr (0, [.ref qa, .int u])), (qa, .inl (k.1, n, .inl f))]) (wr := [(h0, .inr (4, [.ref qs, .ref qc, .int x39, .int sz, .int rm]))]) (va_runV (As := [.int x40]) (rest := []) ⟨hx, hb, hml, hown, hts⟩ (c_Seg_changeLast l hl9 D k qs qr qa H.size a n f u L x40 (by assumption)) (cwV 1 hts (gV mw_88 mw_89 mw_90 mw_53 mw_91) rfl rfl rfl (by decide +kernel) ⟨(Nat.le_of_ble_eq_true rfl), (Nat.le_of_ble_eq_true rfl)⟩) (kRecv (q := (R_Seg, T_Seg, 2)) (q0 := 1) (ci := 2) hK hP rfl rfl (kPre (wc := [(qs, .inr (2, [.ref qr, .int a])), (qr, .inr (0, [.ref qa, .int u])), (qa, .inl (k.1, n, .inl f))]) hE hK hP hD hS hA [1, 2, 3] rfl (by decide))) rfl rfl hl.1 rfl (lv_room (Nat.le_of_ble_eq_true rfl)) d_CWr_byteOut_48 ⟨(Nat.le_of_ble_eq_true rfl), (Nat.le_of_ble_eq_true rfl)⟩) hP hD hS hA [1, 2, 3] [0] rfl rfl (by decide) (by decide) (fun zz uu H locs hw44 hz45 hP hD hS => ?_)
        obtain ⟨f_42, rfl⟩ : ∃ y, y = zz := ⟨_, rfl⟩
        obtain ⟨L_41, rfl⟩ : ∃ y, y = uu := ⟨_, rfl⟩
        have hw44 : L_41 = sgc L a x40 := hw44
        have hz45 : row_ok n f_42 u L_41 := hz45
        have hP : va_P D vwCl [(h0, .inr (4, [.ref qs, .ref qc, .int x39, .int sz, .int rm])), (qs, .inr (2, [.ref qr, .int a])), (qr, .inr (0, [.ref qa, .int u])), (qa, .inl (k.1, n, .inl f_42))] H := hP
        have hD : va_D A [(h0, .inr (4, [.ref qs, .ref qc, .int x39, .int sz, .int rm])), (qs, .inr (2, [.ref qr, .int a])), (qr, .inr (0, [.ref qa, .int u])), (qa, .inl (k.1, n, .inl f_42))] := hD
        refine lv_aload_n hx hb d_CWr_byteOut_51 rfl (lv_at hl 1 rfl) ?_
        refine lv_iload_n hx hb d_CWr_byteOut_52 rfl (lv_at hl 0 rfl) ?_
        refine lv_sipush (v := 255) hx hb d_CWr_byteOut_53 (by decide) ?_
        refine lv_icmp_ne (tgt := 64) hx hb d_CWr_byteOut_56 (by decide) (fun c46 => ?_) (fun c46 => ?_)
        · refine lv_bipush (v := 8) hx hb d_CWr_byteOut_64 (by decide) ?_
          refine va_put (D := D) (ci := 4) (v := .int 8) (ty := .int) (C := R_CWr) (T := T_CWr) (N := 5) hx hb hts inw_CWr ty_CWr tyok_CWr nm_CWr hown hK hP hD hS 0 rfl rfl 4 (by decide) (hts (.fieldLink R_CWr 27 "LikelyBits$CodedWriter" "room" "I") mw_81) (fun _ h9 => h9) rfl (by decide +kernel) rfl rfl (Nat.le_of_ble_eq_true rfl) d_CWr_byteOut_66 (fun H locs hP hD hS => ?_)
          have hP : va_P D vwCl [(h0, .inr (4, [.ref qs, .ref qc, .int x39, .int sz, .int 8])), (qs, .inr (2, [.ref qr, .int a])), (qr, .inr (0, [.ref qa, .int u])), (qa, .inl (k.1, n, .inl f_42))] H := hP
          have hD : va_D A [(h0, .inr (4, [.ref qs, .ref qc, .int x39, .int sz, .int 8])), (qs, .inr (2, [.ref qr, .int a])), (qr, .inr (0, [.ref qa, .int u])), (qa, .inl (k.1, n, .inl f_42))] := hD
          refine lv_bipush (v := 27) hx hb d_CWr_byteOut_69 (by decide) ?_
          refine lv_aload_n hx hb d_CWr_byteOut_71 rfl (lv_at hl 1 rfl) ?_
          refine va_get (D := D) (ci := 4) (v := .int 8) (C := R_CWr) (T := T_CWr) (N := 5) hx hb hts inw_CWr hown hK hP 0 rfl rfl 4 (by decide) (hts (.fieldLink R_CWr 27 "LikelyBits$CodedWriter" "room" "I") mw_81) (fun _ h9 => h9) rfl d_CWr_byteOut_72 ?_
          refine lv_isub hx hb d_CWr_byteOut_75 ?_
          refine lv_topi (fun x47 ex47 => ?_)
          refine lv_istore_n (lv' := [(2, .int x47), (1, .int x40), (0, .ref h0)]) hx hb d_CWr_byteOut_76 rfl hl (by decide) rfl (fun ls hl => ?_)
          refine lv_aload_n hx hb d_CWr_byteOut_77 rfl (lv_at hl 2 rfl) ?_
          refine va_get (D := D) (ci := 4) (v := .ref qs) (C := R_CWr) (T := T_CWr) (N := 5) hx hb hts inw_CWr hown hK hP 0 rfl rfl 0 (by decide) (hts (.fieldLink R_CWr 9 "LikelyBits$CodedWriter" "segment" "LLikelyBits$Segment;") mw_76) (fun _ h9 => h9) rfl d_CWr_byteOut_78 ?_
          refine lv_aload_n hx hb d_CWr_byteOut_81 rfl (lv_at hl 2 rfl) ?_
          refine va_get (D := D) (ci := 4) (v := .int x39) (C := R_CWr) (T := T_CWr) (N := 5) hx hb hts inw_CWr hown hK hP 0 rfl rfl 2 (by decide) (hts (.fieldLink R_CWr 19 "LikelyBits$CodedWriter" "low" "I") mw_78) (fun _ h9 => h9) rfl d_CWr_byteOut_82 ?_
          refine lv_iload_n hx hb d_CWr_byteOut_85 rfl (lv_at hl 0 rfl) ?_
          refine lv_iushr (v := jushr x39 x47) hx hb d_CWr_byteOut_86 rfl ?_
          refine lv_sipush (v := 255) hx hb d_CWr_byteOut_87 (by decide) ?_
          refine lv_iand hx hb d_CWr_byteOut_90 ?_
          have hbn : (bo a lo n L).2.2.1 = apn n L_41 := (by subst ex47; obtain rfl := hw44; subst ex40; subst ex39; subst ex2; simp [bo, bo2, bo3, c3, c15, c27, c46])
          refine kcv (wc := [(qs, .inr (2, [.ref qr, .int a])), (qr, .inr (0, [.ref qa, .int u])), (qa, .inl (k.1, n, .inl f_42))]) (wr := [(h0, .inr (4, [.ref qs, .ref qc, .int x39, .int sz, .int 8]))]) (va_runV (As := [.int ((jushr x39 x47) &&& 255)]) (rest := []) ⟨hx, hb, hml, hown, hts⟩ (c_Seg_append l hl9 D k qs qr qa H.size a n f_42 u L_41 ((jushr x39 x47) &&& 255) (by assumption)) (cwV 1 hts (gV mw_83 mw_84 mw_85 mw_53 mw_86) rfl rfl rfl (by decide +kernel) ⟨(Nat.le_of_ble_eq_true rfl), (Nat.le_of_ble_eq_true rfl)⟩) (kRecv (q := (R_Seg, T_Seg, 2)) (q0 := 1) (ci := 2) hK hP rfl rfl (kPre (wc := [(qs, .inr (2, [.ref qr, .int a])), (qr, .inr (0, [.ref qa, .int u])), (qa, .inl (k.1, n, .inl f_42))]) hE hK hP hD hS hA [1, 2, 3] rfl (by decide))) rfl rfl hl.1 rfl (lv_room (Nat.le_of_ble_eq_true rfl)) d_CWr_byteOut_91 ⟨(by first | omega | (dsimp only; omega)), (by first | omega | (dsimp only; omega))⟩) hP hD hS hA [1, 2, 3] [0] rfl rfl (by decide) (by decide) (fun zz uu H locs hw54 hz55 hP hD hS => ?_)
          obtain ⟨q_50, f_51, u_52⟩ := zz
          obtain ⟨n_48, L_49⟩ := uu
          have hw54 : n_48 = apn n L_41 ∧ L_49 = app L_41 ((jushr x39 x47) &&& 255) := hw54
          have hz55 : row_ok n_48 f_51 u_52 L_49 := hz55
          have hP : va_P D vwCl [(h0, .inr (4, [.ref qs, .ref qc, .int x39, .int sz, .int 8])), (qs, .inr (2, [.ref qr, .int a])), (qr, .inr (0, [.ref q_50, .int u_52])), (q_50, .inl (k.1, n_48, .inl f_51))] H := hP
          have hD : va_D A [(h0, .inr (4, [.ref qs, .ref qc, .int x39, .int sz, .int 8])), (qs, .inr (2, [.ref qr, .int a])), (qr, .inr (0, [.ref q_50, .int u_52])), (q_50, .inl (k.1, n_48, .inl f_51))] := hD
          refine lv_aload_n hx hb d_CWr_byteOut_94 rfl (lv_at hl 2 rfl) ?_
          refine lv_dup hx hb d_CWr_byteOut_95 rfl ?_
          refine va_get (D := D) (ci := 4) (v := .int x39) (C := R_CWr) (T := T_CWr) (N := 5) hx hb hts inw_CWr hown hK hP 0 rfl rfl 2 (by decide) (hts (.fieldLink R_CWr 19 "LikelyBits$CodedWriter" "low" "I") mw_78) (fun _ h9 => h9) rfl d_CWr_byteOut_96 ?_
          refine lv_iconst (v := 1) hx hb d_CWr_byteOut_99 (by decide) ?_
          refine lv_iload_n hx hb d_CWr_byteOut_100 rfl (lv_at hl 0 rfl) ?_
          refine lv_ishl hx hb d_CWr_byteOut_101 ?_
          refine lv_iconst (v := 1) hx hb d_CWr_byteOut_102 (by decide) ?_
          refine lv_isub hx hb d_CWr_byteOut_103 ?_
          refine lv_iand hx hb d_CWr_byteOut_104 ?_
          refine lv_topi (fun x56 ex56 => ?_)
          refine va_put (D := D) (ci := 4) (v := .int x56) (ty := .int) (C := R_CWr) (T := T_CWr) (N := 5) hx hb hts inw_CWr ty_CWr tyok_CWr nm_CWr hown hK hP hD hS 0 rfl rfl 2 (by decide) (hts (.fieldLink R_CWr 19 "LikelyBits$CodedWriter" "low" "I") mw_78) (fun _ h9 => h9) rfl (by decide +kernel) rfl rfl (Nat.le_of_ble_eq_true rfl) d_CWr_byteOut_105 (fun H locs hP hD hS => ?_)
          have hP : va_P D vwCl [(h0, .inr (4, [.ref qs, .ref qc, .int x56, .int sz, .int 8])), (qs, .inr (2, [.ref qr, .int a])), (qr, .inr (0, [.ref q_50, .int u_52])), (q_50, .inl (k.1, n_48, .inl f_51))] H := hP
          have hD : va_D A [(h0, .inr (4, [.ref qs, .ref qc, .int x56, .int sz, .int 8])), (qs, .inr (2, [.ref qr, .int a])), (qr, .inr (0, [.ref q_50, .int u_52])), (q_50, .inl (k.1, n_48, .inl f_51))] := hD
          exact krv (wo := wo_CWr_byteOut k h0 qs qr qa qc lo sz rm a n f u L) hx hb hr hlk hP hD hS (x56, 8, n_48, L_49) (q_50, f_51, u_52) (by subst ex56; obtain ⟨rfl, rfl⟩ := hw54; subst ex47; obtain rfl := hw44; subst ex40; subst ex39; subst ex2; simp [po_CWr_byteOut, bo, bo2, bo3, c3, c15, c27, c46]) (by assumption) [0, 1, 2, 3] rfl (by decide) (by first | omega | (dsimp only; omega)) (by first | omega | (dsimp only; omega)) d_CWr_byteOut_108
        · refine lv_bipush (v := 7) hx hb d_CWr_byteOut_59 (by decide) ?_
          refine lv_goto (tgt := 66) hx hb d_CWr_byteOut_61 (by decide) ?_
          refine va_put (D := D) (ci := 4) (v := .int 7) (ty := .int) (C := R_CWr) (T := T_CWr) (N := 5) hx hb hts inw_CWr ty_CWr tyok_CWr nm_CWr hown hK hP hD hS 0 rfl rfl 4 (by decide) (hts (.fieldLink R_CWr 27 "LikelyBits$CodedWriter" "room" "I") mw_81) (fun _ h9 => h9) rfl (by decide +kernel) rfl rfl (Nat.le_of_ble_eq_true rfl) d_CWr_byteOut_66 (fun H locs hP hD hS => ?_)
          have hP : va_P D vwCl [(h0, .inr (4, [.ref qs, .ref qc, .int x39, .int sz, .int 7])), (qs, .inr (2, [.ref qr, .int a])), (qr, .inr (0, [.ref qa, .int u])), (qa, .inl (k.1, n, .inl f_42))] H := hP
          have hD : va_D A [(h0, .inr (4, [.ref qs, .ref qc, .int x39, .int sz, .int 7])), (qs, .inr (2, [.ref qr, .int a])), (qr, .inr (0, [.ref qa, .int u])), (qa, .inl (k.1, n, .inl f_42))] := hD
          refine lv_bipush (v := 27) hx hb d_CWr_byteOut_69 (by decide) ?_
          refine lv_aload_n hx hb d_CWr_byteOut_71 rfl (lv_at hl 1 rfl) ?_
          refine va_get (D := D) (ci := 4) (v := .int 7) (C := R_CWr) (T := T_CWr) (N := 5) hx hb hts inw_CWr hown hK hP 0 rfl rfl 4 (by decide) (hts (.fieldLink R_CWr 27 "LikelyBits$CodedWriter" "room" "I") mw_81) (fun _ h9 => h9) rfl d_CWr_byteOut_72 ?_
          refine lv_isub hx hb d_CWr_byteOut_75 ?_
          refine lv_topi (fun x57 ex57 => ?_)
          refine lv_istore_n (lv' := [(2, .int x57), (1, .int x40), (0, .ref h0)]) hx hb d_CWr_byteOut_76 rfl hl (by decide) rfl (fun ls hl => ?_)
          refine lv_aload_n hx hb d_CWr_byteOut_77 rfl (lv_at hl 2 rfl) ?_
          refine va_get (D := D) (ci := 4) (v := .ref qs) (C := R_CWr) (T := T_CWr) (N := 5) hx hb hts inw_CWr hown hK hP 0 rfl rfl 0 (by decide) (hts (.fieldLink R_CWr 9 "LikelyBits$CodedWriter" "segment" "LLikelyBits$Segment;") mw_76) (fun _ h9 => h9) rfl d_CWr_byteOut_78 ?_
          refine lv_aload_n hx hb d_CWr_byteOut_81 rfl (lv_at hl 2 rfl) ?_
          refine va_get (D := D) (ci := 4) (v := .int x39) (C := R_CWr) (T := T_CWr) (N := 5) hx hb hts inw_CWr hown hK hP 0 rfl rfl 2 (by decide) (hts (.fieldLink R_CWr 19 "LikelyBits$CodedWriter" "low" "I") mw_78) (fun _ h9 => h9) rfl d_CWr_byteOut_82 ?_
          refine lv_iload_n hx hb d_CWr_byteOut_85 rfl (lv_at hl 0 rfl) ?_
          refine lv_iushr (v := jushr x39 x57) hx hb d_CWr_byteOut_86 rfl ?_
          refine lv_sipush (v := 255) hx hb d_CWr_byteOut_87 (by decide) ?_
          refine lv_iand hx hb d_CWr_byteOut_90 ?_
          have hbn : (bo a lo n L).2.2.1 = apn n L_41 := (by subst ex57; obtain rfl := hw44; subst ex40; subst ex39; subst ex2; simp [bo, bo2, bo3, c3, c15, c27, c46])
          refine kcv (wc := [(qs, .inr (2, [.ref qr, .int a])), (qr, .inr (0, [.ref qa, .int u])), (qa, .inl (k.1, n, .inl f_42))]) (wr := [(h0, .inr (4, [.ref qs, .ref qc, .int x39, .int sz, .int 7]))]) (va_runV (As := [.int ((jushr x39 x57) &&& 255)]) (rest := []) ⟨hx, hb, hml, hown, hts⟩ (c_Seg_append l hl9 D k qs qr qa H.size a n f_42 u L_41 ((jushr x39 x57) &&& 255) (by assumption)) (cwV 1 hts (gV mw_83 mw_84 mw_85 mw_53 mw_86) rfl rfl rfl (by decide +kernel) ⟨(Nat.le_of_ble_eq_true rfl), (Nat.le_of_ble_eq_true rfl)⟩) (kRecv (q := (R_Seg, T_Seg, 2)) (q0 := 1) (ci := 2) hK hP rfl rfl (kPre (wc := [(qs, .inr (2, [.ref qr, .int a])), (qr, .inr (0, [.ref qa, .int u])), (qa, .inl (k.1, n, .inl f_42))]) hE hK hP hD hS hA [1, 2, 3] rfl (by decide))) rfl rfl hl.1 rfl (lv_room (Nat.le_of_ble_eq_true rfl)) d_CWr_byteOut_91 ⟨(by first | omega | (dsimp only; omega)), (by first | omega | (dsimp only; omega))⟩) hP hD hS hA [1, 2, 3] [0] rfl rfl (by decide) (by decide) (fun zz uu H locs hw64 hz65 hP hD hS => ?_)
          obtain ⟨q_60, f_61, u_62⟩ := zz
          obtain ⟨n_58, L_59⟩ := uu
          have hw64 : n_58 = apn n L_41 ∧ L_59 = app L_41 ((jushr x39 x57) &&& 255) := hw64
          have hz65 : row_ok n_58 f_61 u_62 L_59 := hz65
          have hP : va_P D vwCl [(h0, .inr (4, [.ref qs, .ref qc, .int x39, .int sz, .int 7])), (qs, .inr (2, [.ref qr, .int a])), (qr, .inr (0, [.ref q_60, .int u_62])), (q_60, .inl (k.1, n_58, .inl f_61))] H := hP
          have hD : va_D A [(h0, .inr (4, [.ref qs, .ref qc, .int x39, .int sz, .int 7])), (qs, .inr (2, [.ref qr, .int a])), (qr, .inr (0, [.ref q_60, .int u_62])), (q_60, .inl (k.1, n_58, .inl f_61))] := hD
          refine lv_aload_n hx hb d_CWr_byteOut_94 rfl (lv_at hl 2 rfl) ?_
          refine lv_dup hx hb d_CWr_byteOut_95 rfl ?_
          refine va_get (D := D) (ci := 4) (v := .int x39) (C := R_CWr) (T := T_CWr) (N := 5) hx hb hts inw_CWr hown hK hP 0 rfl rfl 2 (by decide) (hts (.fieldLink R_CWr 19 "LikelyBits$CodedWriter" "low" "I") mw_78) (fun _ h9 => h9) rfl d_CWr_byteOut_96 ?_
          refine lv_iconst (v := 1) hx hb d_CWr_byteOut_99 (by decide) ?_
          refine lv_iload_n hx hb d_CWr_byteOut_100 rfl (lv_at hl 0 rfl) ?_
          refine lv_ishl hx hb d_CWr_byteOut_101 ?_
          refine lv_iconst (v := 1) hx hb d_CWr_byteOut_102 (by decide) ?_
          refine lv_isub hx hb d_CWr_byteOut_103 ?_
          refine lv_iand hx hb d_CWr_byteOut_104 ?_
          refine lv_topi (fun x66 ex66 => ?_)
          refine va_put (D := D) (ci := 4) (v := .int x66) (ty := .int) (C := R_CWr) (T := T_CWr) (N := 5) hx hb hts inw_CWr ty_CWr tyok_CWr nm_CWr hown hK hP hD hS 0 rfl rfl 2 (by decide) (hts (.fieldLink R_CWr 19 "LikelyBits$CodedWriter" "low" "I") mw_78) (fun _ h9 => h9) rfl (by decide +kernel) rfl rfl (Nat.le_of_ble_eq_true rfl) d_CWr_byteOut_105 (fun H locs hP hD hS => ?_)
          have hP : va_P D vwCl [(h0, .inr (4, [.ref qs, .ref qc, .int x66, .int sz, .int 7])), (qs, .inr (2, [.ref qr, .int a])), (qr, .inr (0, [.ref q_60, .int u_62])), (q_60, .inl (k.1, n_58, .inl f_61))] H := hP
          have hD : va_D A [(h0, .inr (4, [.ref qs, .ref qc, .int x66, .int sz, .int 7])), (qs, .inr (2, [.ref qr, .int a])), (qr, .inr (0, [.ref q_60, .int u_62])), (q_60, .inl (k.1, n_58, .inl f_61))] := hD
          exact krv (wo := wo_CWr_byteOut k h0 qs qr qa qc lo sz rm a n f u L) hx hb hr hlk hP hD hS (x66, 7, n_58, L_59) (q_60, f_61, u_62) (by subst ex66; obtain ⟨rfl, rfl⟩ := hw64; subst ex57; obtain rfl := hw44; subst ex40; subst ex39; subst ex2; simp [po_CWr_byteOut, bo, bo2, bo3, c3, c15, c27, c46]) (by assumption) [0, 1, 2, 3] rfl (by decide) (by first | omega | (dsimp only; omega)) (by first | omega | (dsimp only; omega)) d_CWr_byteOut_108

def wo_CWr_fill (k : gK) (h0 qs qr qa : Nat) (qc : Nat) (lo : Int32) (sz : Int32) (rm : Int32) (a : Int32) (n : Nat) (f : Nat → Int32) (u : Int32) (L : List Int32) (zz : Nat × (Nat → Int32) × Int32) (uu : Int32 × Int32 × Nat × List Int32) : va_W := match zz, uu with
  | (q2, f2, u2), (lo2, rm2, n2, L2) => [(h0, .inr (4, [.ref qs, .ref qc, .int lo2, .int sz, .int rm2])), (qs, .inr (2, [.ref qr, .int a])), (qr, .inr (0, [.ref q2, .int u2])), (q2, .inl (k.1, n2, .inl f2))]
def ex_CWr_fill (k : gK) (h0 qs qr qa : Nat) (qc : Nat) (lo : Int32) (sz : Int32) (rm : Int32) (a : Int32) (n : Nat) (f : Nat → Int32) (u : Int32) (L : List Int32) (zz : Nat × (Nat → Int32) × Int32) (uu : Int32 × Int32 × Nat × List Int32) : Prop := match zz, uu with
  | (q2, f2, u2), (lo2, rm2, n2, L2) => row_ok n2 f2 u2 L2
def po_CWr_fill (k : gK) (h0 qs qr qa : Nat) (qc : Nat) (lo : Int32) (sz : Int32) (rm : Int32) (a : Int32) (n : Nat) (f : Nat → Int32) (u : Int32) (L : List Int32) (uu : Int32 × Int32 × Nat × List Int32) : Prop := match uu with
  | (lo2, rm2, n2, L2) => lo2 = (fb a lo rm n L).1 ∧ rm2 = (fb a lo rm n L).2.1 ∧ n2 = (fb a lo rm n L).2.2.1 ∧ L2 = (fb a lo rm n L).2.2.2
def qc_CWr_fill (D : va_G) (k : gK) (h0 qs qr qa : Nat) (qc : Nat) (lo : Int32) (sz : Int32) (rm : Int32) (a : Int32) (n : Nat) (f : Nat → Int32) (u : Int32) (L : List Int32) (A : Nat → Prop) : Array Value → State → Outcome → State → Prop := va_Qv (po_CWr_fill k h0 qs qr qa qc lo sz rm a n f u L) (fun uu t => ∃ zz, ex_CWr_fill k h0 qs qr qa qc lo sz rm a n f u L zz uu ∧ GP D A (wo_CWr_fill k h0 qs qr qa qc lo sz rm a n f u L zz uu) t) A
set_option maxHeartbeats 1000000 in
set_option maxRecDepth 100000 in
theorem c_CWr_fill (l : Launch) (hl9 : l.stackTraces = false) (D : va_G) (k : gK) (h0 qs qr qa : Nat) (zsz : Nat) (qc : Nat) (lo : Int32) (sz : Int32) (rm : Int32) (a : Int32) (n : Nat) (f : Nat → Int32) (u : Int32) (L : List Int32) (hR : row_ok n f u L) : Met l y_CWr_fillByteOut (.code y_CWr_fillByteOut b_CWr_fillByteOut 1 none :: AW) ({ frames := 5, cells := (fb a lo rm n L).2.2.1 - n, slots := 2 * ((fb a lo rm n L).2.2.1 - n), locals := 146 }) (va_Pc [.ref h0] (GG D k [(h0, .inr (4, [.ref qs, .ref qc, .int lo, .int sz, .int rm])), (qs, .inr (2, [.ref qr, .int a])), (qr, .inr (0, [.ref qa, .int u])), (qa, .inl (k.1, n, .inl f))] zsz)) (qc_CWr_fill D k h0 qs qr qa qc lo sz rm a n f u L (va_A [(h0, .inr (4, [.ref qs, .ref qc, .int lo, .int sz, .int rm])), (qs, .inr (2, [.ref qr, .int a])), (qr, .inr (0, [.ref qa, .int u])), (qa, .inl (k.1, n, .inl f))] zsz)) ((fb a lo rm n L).2.2.1 - n) (2 * ((fb a lo rm n L).2.2.1 - n)) (va_A [(h0, .inr (4, [.ref qs, .ref qc, .int lo, .int sz, .int rm])), (qs, .inr (2, [.ref qr, .int a])), (qr, .inr (0, [.ref qa, .int u])), (qa, .inl (k.1, n, .inl f))] zsz) := by
  refine kMet (ws := [(h0, .inr (4, [.ref qs, .ref qc, .int lo, .int sz, .int rm])), (qs, .inr (2, [.ref qr, .int a])), (qr, .inr (0, [.ref qa, .int u])), (qa, .inl (k.1, n, .inl f))]) (Qc := qc_CWr_fill D k h0 qs qr qa qc lo sz rm a n f u L) (by decide) (Nat.le_of_ble_eq_true rfl) (fun p e s m below meth c ls A H Cc hP hD hA hS hl => ?_)
  obtain ⟨hx, hb, hml, hr, hlk, hown, hts, hK, hE, hin⟩ := Cc
  have hl : lv_has ls 1 [(0, .ref h0)] := hl
  refine lv_aload_n hx hb d_CWr_fillByteOut_0 rfl (lv_at hl 0 rfl) ?_
  refine lv_dup hx hb d_CWr_fillByteOut_1 rfl ?_
  refine va_get (D := D) (ci := 4) (v := .int lo) (C := R_CWr) (T := T_CWr) (N := 5) hx hb hts inw_CWr hown hK hP 0 rfl rfl 2 (by decide) (hts (.fieldLink R_CWr 19 "LikelyBits$CodedWriter" "low" "I") mw_78) (fun _ h9 => h9) rfl d_CWr_fillByteOut_2 ?_
  refine lv_aload_n hx hb d_CWr_fillByteOut_5 rfl (lv_at hl 0 rfl) ?_
  refine va_get (D := D) (ci := 4) (v := .int rm) (C := R_CWr) (T := T_CWr) (N := 5) hx hb hts inw_CWr hown hK hP 0 rfl rfl 4 (by decide) (hts (.fieldLink R_CWr 27 "LikelyBits$CodedWriter" "room" "I") mw_81) (fun _ h9 => h9) rfl d_CWr_fillByteOut_6 ?_
  refine lv_ishl hx hb d_CWr_fillByteOut_9 ?_
  refine lv_topi (fun x1 ex1 => ?_)
  refine va_put (D := D) (ci := 4) (v := .int x1) (ty := .int) (C := R_CWr) (T := T_CWr) (N := 5) hx hb hts inw_CWr ty_CWr tyok_CWr nm_CWr hown hK hP hD hS 0 rfl rfl 2 (by decide) (hts (.fieldLink R_CWr 19 "LikelyBits$CodedWriter" "low" "I") mw_78) (fun _ h9 => h9) rfl (by decide +kernel) rfl rfl (Nat.le_of_ble_eq_true rfl) d_CWr_fillByteOut_10 (fun H locs hP hD hS => ?_)
  have hP : va_P D vwCl [(h0, .inr (4, [.ref qs, .ref qc, .int x1, .int sz, .int rm])), (qs, .inr (2, [.ref qr, .int a])), (qr, .inr (0, [.ref qa, .int u])), (qa, .inl (k.1, n, .inl f))] H := hP
  have hD : va_D A [(h0, .inr (4, [.ref qs, .ref qc, .int x1, .int sz, .int rm])), (qs, .inr (2, [.ref qr, .int a])), (qr, .inr (0, [.ref qa, .int u])), (qa, .inl (k.1, n, .inl f))] := hD
  refine lv_aload_n hx hb d_CWr_fillByteOut_13 rfl (lv_at hl 0 rfl) ?_
  have hbn : (fb a lo rm n L).2.2.1 = (bo a x1 n L).2.2.1 := by rw [ex1]; rfl
  refine kcv (wc := [(h0, .inr (4, [.ref qs, .ref qc, .int x1, .int sz, .int rm])), (qs, .inr (2, [.ref qr, .int a])), (qr, .inr (0, [.ref qa, .int u])), (qa, .inl (k.1, n, .inl f))]) (wr := []) (va_runV (As := []) (rest := []) ⟨hx, hb, hml, hown, hts⟩ (c_CWr_byteOut l hl9 D k h0 qs qr qa H.size qc x1 sz rm a n f u L (by assumption)) (cwV 0 hts (gV mw_92 mw_93 mw_94 mw_95 mw_96) rfl rfl rfl (by decide +kernel) ⟨(Nat.le_of_ble_eq_true rfl), (Nat.le_of_ble_eq_true rfl)⟩) (kRecv (q := (R_CWr, T_CWr, 5)) (q0 := 0) (ci := 4) hK hP rfl rfl (kPre (wc := [(h0, .inr (4, [.ref qs, .ref qc, .int x1, .int sz, .int rm])), (qs, .inr (2, [.ref qr, .int a])), (qr, .inr (0, [.ref qa, .int u])), (qa, .inl (k.1, n, .inl f))]) hE hK hP hD hS hA [0, 1, 2, 3] rfl (by decide))) rfl rfl hl.1 rfl (lv_room (Nat.le_of_ble_eq_true rfl)) d_CWr_fillByteOut_14 ⟨(by first | omega | (dsimp only; omega)), (by first | omega | (dsimp only; omega))⟩) hP hD hS hA [0, 1, 2, 3] [] rfl rfl (by decide) (by decide) (fun zz uu H locs hw10 hz11 hP hD hS => ?_)
  obtain ⟨q_6, f_7, u_8⟩ := zz
  obtain ⟨lo_2, rm_3, n_4, L_5⟩ := uu
  have hw10 : lo_2 = (bo a x1 n L).1 ∧ rm_3 = (bo a x1 n L).2.1 ∧ n_4 = (bo a x1 n L).2.2.1 ∧ L_5 = (bo a x1 n L).2.2.2 := hw10
  have hz11 : row_ok n_4 f_7 u_8 L_5 := hz11
  have hP : va_P D vwCl [(h0, .inr (4, [.ref qs, .ref qc, .int lo_2, .int sz, .int rm_3])), (qs, .inr (2, [.ref qr, .int a])), (qr, .inr (0, [.ref q_6, .int u_8])), (q_6, .inl (k.1, n_4, .inl f_7))] H := hP
  have hD : va_D A [(h0, .inr (4, [.ref qs, .ref qc, .int lo_2, .int sz, .int rm_3])), (qs, .inr (2, [.ref qr, .int a])), (qr, .inr (0, [.ref q_6, .int u_8])), (q_6, .inl (k.1, n_4, .inl f_7))] := hD
  exact krv (wo := wo_CWr_fill k h0 qs qr qa qc lo sz rm a n f u L) hx hb hr hlk hP hD hS (lo_2, rm_3, n_4, L_5) (q_6, f_7, u_8) (by obtain ⟨rfl, rfl, rfl, rfl⟩ := hw10; subst ex1; simp [po_CWr_fill, fb]) (by assumption) [0, 1, 2, 3] rfl (by decide) (by first | omega | (dsimp only; omega)) (by first | omega | (dsimp only; omega)) d_CWr_fillByteOut_17

def wo_CWr_addLikely (k : gK) (h0 qc qf qg : Nat) (qs : Nat) (lo : Int32) (sz : Int32) (rm : Int32) (sf : Nat → Int32) (lf : Nat → Int32) (x : Int32) (pt : Int32) (zz : Unit) (uu : Int32 × Int32 × (Nat → Int32) × (Nat → Int32)) : va_W := match zz, uu with
  | _, (lo2, sz2, sf2, lf2) => [(h0, .inr (4, [.ref qs, .ref qc, .int lo2, .int sz2, .int rm])), (qc, .inr (1, [.ref qf, .ref qg])), (qf, .inl (k.1, 19, .inl sf2)), (qg, .inl (k.1, 19, .inl lf2))]
def ex_CWr_addLikely (k : gK) (h0 qc qf qg : Nat) (qs : Nat) (lo : Int32) (sz : Int32) (rm : Int32) (sf : Nat → Int32) (lf : Nat → Int32) (x : Int32) (pt : Int32) (zz : Unit) (uu : Int32 × Int32 × (Nat → Int32) × (Nat → Int32)) : Prop := match zz, uu with
  | _, (lo2, sz2, sf2, lf2) => True
def po_CWr_addLikely (k : gK) (h0 qc qf qg : Nat) (qs : Nat) (lo : Int32) (sz : Int32) (rm : Int32) (sf : Nat → Int32) (lf : Nat → Int32) (x : Int32) (pt : Int32) (uu : Int32 × Int32 × (Nat → Int32) × (Nat → Int32)) : Prop := match uu with
  | (lo2, sz2, sf2, lf2) => lo2 = (aLk lo sz sf lf x pt).1 ∧ sz2 = (aLk lo sz sf lf x pt).2.1 ∧ sf2 = (aLk lo sz sf lf x pt).2.2.1 ∧ lf2 = (aLk lo sz sf lf x pt).2.2.2
def qc_CWr_addLikely (D : va_G) (k : gK) (h0 qc qf qg : Nat) (qs : Nat) (lo : Int32) (sz : Int32) (rm : Int32) (sf : Nat → Int32) (lf : Nat → Int32) (x : Int32) (pt : Int32) (A : Nat → Prop) : Array Value → State → Outcome → State → Prop := va_Qv (po_CWr_addLikely k h0 qc qf qg qs lo sz rm sf lf x pt) (fun uu t => ∃ zz, ex_CWr_addLikely k h0 qc qf qg qs lo sz rm sf lf x pt zz uu ∧ GP D A (wo_CWr_addLikely k h0 qc qf qg qs lo sz rm sf lf x pt zz uu) t) A
set_option maxHeartbeats 1000000 in
set_option maxRecDepth 100000 in
theorem c_CWr_addLikely (l : Launch) (hl9 : l.stackTraces = false) (D : va_G) (k : gK) (h0 qc qf qg : Nat) (zsz : Nat) (qs : Nat) (lo : Int32) (sz : Int32) (rm : Int32) (sf : Nat → Int32) (lf : Nat → Int32) (x : Int32) (pt : Int32) : Met l y_CWr_addLikely (.code y_CWr_addLikely b_CWr_addLikely 3 none :: AW) ({ frames := 3, cells := 0, slots := 0, locals := 63 }) (va_Pc [.ref h0, .int x, .int pt] (GG D k [(h0, .inr (4, [.ref qs, .ref qc, .int lo, .int sz, .int rm])), (qc, .inr (1, [.ref qf, .ref qg])), (qf, .inl (k.1, 19, .inl sf)), (qg, .inl (k.1, 19, .inl lf))] zsz)) (qc_CWr_addLikely D k h0 qc qf qg qs lo sz rm sf lf x pt (va_A [(h0, .inr (4, [.ref qs, .ref qc, .int lo, .int sz, .int rm])), (qc, .inr (1, [.ref qf, .ref qg])), (qf, .inl (k.1, 19, .inl sf)), (qg, .inl (k.1, 19, .inl lf))] zsz)) 0 0 (va_A [(h0, .inr (4, [.ref qs, .ref qc, .int lo, .int sz, .int rm])), (qc, .inr (1, [.ref qf, .ref qg])), (qf, .inl (k.1, 19, .inl sf)), (qg, .inl (k.1, 19, .inl lf))] zsz) := by
  refine kMet (ws := [(h0, .inr (4, [.ref qs, .ref qc, .int lo, .int sz, .int rm])), (qc, .inr (1, [.ref qf, .ref qg])), (qf, .inl (k.1, 19, .inl sf)), (qg, .inl (k.1, 19, .inl lf))]) (Qc := qc_CWr_addLikely D k h0 qc qf qg qs lo sz rm sf lf x pt) (by decide) (Nat.le_of_ble_eq_true rfl) (fun p e s m below meth c ls A H Cc hP hD hA hS hl => ?_)
  obtain ⟨hx, hb, hml, hr, hlk, hown, hts, hK, hE, hin⟩ := Cc
  have hl : lv_has ls 3 [(0, .ref h0), (1, .int x), (2, .int pt)] := hl
  refine lv_aload_n hx hb d_CWr_addLikely_0 rfl (lv_at hl 0 rfl) ?_
  refine va_get (D := D) (ci := 4) (v := .int sz) (C := R_CWr) (T := T_CWr) (N := 5) hx hb hts inw_CWr hown hK hP 0 rfl rfl 3 (by decide) (hts (.fieldLink R_CWr 24 "LikelyBits$CodedWriter" "size" "I") mw_80) (fun _ h9 => h9) rfl d_CWr_addLikely_1 ?_
  refine lv_ldc (v := 32768) hx hb hown (hts (.constant R_CWr 23 32768) mw_79) d_CWr_addLikely_4 ?_
  refine lv_icmp_lt (tgt := 20) hx hb d_CWr_addLikely_6 (by decide) (fun c1 => ?_) (fun c1 => ?_)
  · refine lv_aload_n hx hb d_CWr_addLikely_20 rfl (lv_at hl 0 rfl) ?_
    refine va_get (D := D) (ci := 4) (v := .int sz) (C := R_CWr) (T := T_CWr) (N := 5) hx hb hts inw_CWr hown hK hP 0 rfl rfl 3 (by decide) (hts (.fieldLink R_CWr 24 "LikelyBits$CodedWriter" "size" "I") mw_80) (fun _ h9 => h9) rfl d_CWr_addLikely_21 ?_
    refine lv_iload_n hx hb d_CWr_addLikely_24 rfl (lv_at hl 2 rfl) ?_
    refine lv_icmp_ge (tgt := 36) hx hb d_CWr_addLikely_25 (by decide) (fun c2 => ?_) (fun c2 => ?_)
    · refine lv_aload_n hx hb d_CWr_addLikely_36 rfl (lv_at hl 0 rfl) ?_
      refine lv_dup hx hb d_CWr_addLikely_37 rfl ?_
      refine va_get (D := D) (ci := 4) (v := .int lo) (C := R_CWr) (T := T_CWr) (N := 5) hx hb hts inw_CWr hown hK hP 0 rfl rfl 2 (by decide) (hts (.fieldLink R_CWr 19 "LikelyBits$CodedWriter" "low" "I") mw_78) (fun _ h9 => h9) rfl d_CWr_addLikely_38 ?_
      refine lv_iload_n hx hb d_CWr_addLikely_41 rfl (lv_at hl 2 rfl) ?_
      refine lv_iadd hx hb d_CWr_addLikely_42 ?_
      refine lv_topi (fun x3 ex3 => ?_)
      refine va_put (D := D) (ci := 4) (v := .int x3) (ty := .int) (C := R_CWr) (T := T_CWr) (N := 5) hx hb hts inw_CWr ty_CWr tyok_CWr nm_CWr hown hK hP hD hS 0 rfl rfl 2 (by decide) (hts (.fieldLink R_CWr 19 "LikelyBits$CodedWriter" "low" "I") mw_78) (fun _ h9 => h9) rfl (by decide +kernel) rfl rfl (Nat.le_of_ble_eq_true rfl) d_CWr_addLikely_43 (fun H locs hP hD hS => ?_)
      have hP : va_P D vwCl [(h0, .inr (4, [.ref qs, .ref qc, .int x3, .int sz, .int rm])), (qc, .inr (1, [.ref qf, .ref qg])), (qf, .inl (k.1, 19, .inl sf)), (qg, .inl (k.1, 19, .inl lf))] H := hP
      have hD : va_D A [(h0, .inr (4, [.ref qs, .ref qc, .int x3, .int sz, .int rm])), (qc, .inr (1, [.ref qf, .ref qg])), (qf, .inl (k.1, 19, .inl sf)), (qg, .inl (k.1, 19, .inl lf))] := hD
      refine lv_aload_n hx hb d_CWr_addLikely_46 rfl (lv_at hl 0 rfl) ?_
      refine va_get (D := D) (ci := 4) (v := .ref qc) (C := R_CWr) (T := T_CWr) (N := 5) hx hb hts inw_CWr hown hK hP 0 rfl rfl 1 (by decide) (hts (.fieldLink R_CWr 15 "LikelyBits$CodedWriter" "contexts" "LLikelyBits$Contexts;") mw_77) (fun _ h9 => h9) rfl d_CWr_addLikely_47 ?_
      refine lv_iload_n hx hb d_CWr_addLikely_50 rfl (lv_at hl 1 rfl) ?_
      refine kcv (wc := [(qc, .inr (1, [.ref qf, .ref qg])), (qf, .inl (k.1, 19, .inl sf)), (qg, .inl (k.1, 19, .inl lf))]) (wr := [(h0, .inr (4, [.ref qs, .ref qc, .int x3, .int sz, .int rm]))]) (va_runV (As := [.int x]) (rest := []) ⟨hx, hb, hml, hown, hts⟩ (c_Cxt_afterLikely l hl9 D k qc qf qg H.size sf lf x ) (cwV 1 hts (gV mw_97 mw_98 mw_99 mw_23 mw_100) rfl rfl rfl (by decide +kernel) ⟨(Nat.le_of_ble_eq_true rfl), (Nat.le_of_ble_eq_true rfl)⟩) (kRecv (q := (R_Cxt, T_Cxt, 2)) (q0 := 1) (ci := 1) hK hP rfl rfl (kPre (wc := [(qc, .inr (1, [.ref qf, .ref qg])), (qf, .inl (k.1, 19, .inl sf)), (qg, .inl (k.1, 19, .inl lf))]) hE hK hP hD hS hA [1, 2, 3] rfl (by decide))) rfl rfl hl.1 rfl (lv_room (Nat.le_of_ble_eq_true rfl)) d_CWr_addLikely_51 ⟨(Nat.le_of_ble_eq_true rfl), (Nat.le_of_ble_eq_true rfl)⟩) hP hD hS hA [1, 2, 3] [0] rfl rfl (by decide) (by decide) (fun zz uu H locs hw7 hz8 hP hD hS => ?_)
      obtain ⟨sf_4, lf_5⟩ := uu
      have hw7 : sf_4 = (cLk sf lf x).1 ∧ lf_5 = (cLk sf lf x).2 := hw7
      have hP : va_P D vwCl [(h0, .inr (4, [.ref qs, .ref qc, .int x3, .int sz, .int rm])), (qc, .inr (1, [.ref qf, .ref qg])), (qf, .inl (k.1, 19, .inl sf_4)), (qg, .inl (k.1, 19, .inl lf_5))] H := hP
      have hD : va_D A [(h0, .inr (4, [.ref qs, .ref qc, .int x3, .int sz, .int rm])), (qc, .inr (1, [.ref qf, .ref qg])), (qf, .inl (k.1, 19, .inl sf_4)), (qg, .inl (k.1, 19, .inl lf_5))] := hD
      exact krv (wo := wo_CWr_addLikely k h0 qc qf qg qs lo sz rm sf lf x pt) hx hb hr hlk hP hD hS (x3, sz, sf_4, lf_5) () (by obtain ⟨rfl, rfl⟩ := hw7; subst ex3; simp [po_CWr_addLikely, aLk, c1, c2]) trivial [0, 1, 2, 3] rfl (by decide) (Nat.le_of_ble_eq_true rfl) (Nat.le_of_ble_eq_true rfl) d_CWr_addLikely_54
    · refine lv_aload_n hx hb d_CWr_addLikely_28 rfl (lv_at hl 0 rfl) ?_
      refine lv_iload_n hx hb d_CWr_addLikely_29 rfl (lv_at hl 2 rfl) ?_
      refine va_put (D := D) (ci := 4) (v := .int pt) (ty := .int) (C := R_CWr) (T := T_CWr) (N := 5) hx hb hts inw_CWr ty_CWr tyok_CWr nm_CWr hown hK hP hD hS 0 rfl rfl 3 (by decide) (hts (.fieldLink R_CWr 24 "LikelyBits$CodedWriter" "size" "I") mw_80) (fun _ h9 => h9) rfl (by decide +kernel) rfl rfl (Nat.le_of_ble_eq_true rfl) d_CWr_addLikely_30 (fun H locs hP hD hS => ?_)
      have hP : va_P D vwCl [(h0, .inr (4, [.ref qs, .ref qc, .int lo, .int pt, .int rm])), (qc, .inr (1, [.ref qf, .ref qg])), (qf, .inl (k.1, 19, .inl sf)), (qg, .inl (k.1, 19, .inl lf))] H := hP
      have hD : va_D A [(h0, .inr (4, [.ref qs, .ref qc, .int lo, .int pt, .int rm])), (qc, .inr (1, [.ref qf, .ref qg])), (qf, .inl (k.1, 19, .inl sf)), (qg, .inl (k.1, 19, .inl lf))] := hD
      refine lv_goto (tgt := 46) hx hb d_CWr_addLikely_33 (by decide) ?_
      refine lv_aload_n hx hb d_CWr_addLikely_46 rfl (lv_at hl 0 rfl) ?_
      refine va_get (D := D) (ci := 4) (v := .ref qc) (C := R_CWr) (T := T_CWr) (N := 5) hx hb hts inw_CWr hown hK hP 0 rfl rfl 1 (by decide) (hts (.fieldLink R_CWr 15 "LikelyBits$CodedWriter" "contexts" "LLikelyBits$Contexts;") mw_77) (fun _ h9 => h9) rfl d_CWr_addLikely_47 ?_
      refine lv_iload_n hx hb d_CWr_addLikely_50 rfl (lv_at hl 1 rfl) ?_
      refine kcv (wc := [(qc, .inr (1, [.ref qf, .ref qg])), (qf, .inl (k.1, 19, .inl sf)), (qg, .inl (k.1, 19, .inl lf))]) (wr := [(h0, .inr (4, [.ref qs, .ref qc, .int lo, .int pt, .int rm]))]) (va_runV (As := [.int x]) (rest := []) ⟨hx, hb, hml, hown, hts⟩ (c_Cxt_afterLikely l hl9 D k qc qf qg H.size sf lf x ) (cwV 1 hts (gV mw_97 mw_98 mw_99 mw_23 mw_100) rfl rfl rfl (by decide +kernel) ⟨(Nat.le_of_ble_eq_true rfl), (Nat.le_of_ble_eq_true rfl)⟩) (kRecv (q := (R_Cxt, T_Cxt, 2)) (q0 := 1) (ci := 1) hK hP rfl rfl (kPre (wc := [(qc, .inr (1, [.ref qf, .ref qg])), (qf, .inl (k.1, 19, .inl sf)), (qg, .inl (k.1, 19, .inl lf))]) hE hK hP hD hS hA [1, 2, 3] rfl (by decide))) rfl rfl hl.1 rfl (lv_room (Nat.le_of_ble_eq_true rfl)) d_CWr_addLikely_51 ⟨(Nat.le_of_ble_eq_true rfl), (Nat.le_of_ble_eq_true rfl)⟩) hP hD hS hA [1, 2, 3] [0] rfl rfl (by decide) (by decide) (fun zz uu H locs hw12 hz13 hP hD hS => ?_)
      obtain ⟨sf_9, lf_10⟩ := uu
      have hw12 : sf_9 = (cLk sf lf x).1 ∧ lf_10 = (cLk sf lf x).2 := hw12
      have hP : va_P D vwCl [(h0, .inr (4, [.ref qs, .ref qc, .int lo, .int pt, .int rm])), (qc, .inr (1, [.ref qf, .ref qg])), (qf, .inl (k.1, 19, .inl sf_9)), (qg, .inl (k.1, 19, .inl lf_10))] H := hP
      have hD : va_D A [(h0, .inr (4, [.ref qs, .ref qc, .int lo, .int pt, .int rm])), (qc, .inr (1, [.ref qf, .ref qg])), (qf, .inl (k.1, 19, .inl sf_9)), (qg, .inl (k.1, 19, .inl lf_10))] := hD
      exact krv (wo := wo_CWr_addLikely k h0 qc qf qg qs lo sz rm sf lf x pt) hx hb hr hlk hP hD hS (lo, pt, sf_9, lf_10) () (by obtain ⟨rfl, rfl⟩ := hw12; simp [po_CWr_addLikely, aLk, c1, c2]) trivial [0, 1, 2, 3] rfl (by decide) (Nat.le_of_ble_eq_true rfl) (Nat.le_of_ble_eq_true rfl) d_CWr_addLikely_54
  · refine lv_aload_n hx hb d_CWr_addLikely_9 rfl (lv_at hl 0 rfl) ?_
    refine lv_dup hx hb d_CWr_addLikely_10 rfl ?_
    refine va_get (D := D) (ci := 4) (v := .int lo) (C := R_CWr) (T := T_CWr) (N := 5) hx hb hts inw_CWr hown hK hP 0 rfl rfl 2 (by decide) (hts (.fieldLink R_CWr 19 "LikelyBits$CodedWriter" "low" "I") mw_78) (fun _ h9 => h9) rfl d_CWr_addLikely_11 ?_
    refine lv_iload_n hx hb d_CWr_addLikely_14 rfl (lv_at hl 2 rfl) ?_
    refine lv_iadd hx hb d_CWr_addLikely_15 ?_
    refine lv_topi (fun x14 ex14 => ?_)
    refine va_put (D := D) (ci := 4) (v := .int x14) (ty := .int) (C := R_CWr) (T := T_CWr) (N := 5) hx hb hts inw_CWr ty_CWr tyok_CWr nm_CWr hown hK hP hD hS 0 rfl rfl 2 (by decide) (hts (.fieldLink R_CWr 19 "LikelyBits$CodedWriter" "low" "I") mw_78) (fun _ h9 => h9) rfl (by decide +kernel) rfl rfl (Nat.le_of_ble_eq_true rfl) d_CWr_addLikely_16 (fun H locs hP hD hS => ?_)
    have hP : va_P D vwCl [(h0, .inr (4, [.ref qs, .ref qc, .int x14, .int sz, .int rm])), (qc, .inr (1, [.ref qf, .ref qg])), (qf, .inl (k.1, 19, .inl sf)), (qg, .inl (k.1, 19, .inl lf))] H := hP
    have hD : va_D A [(h0, .inr (4, [.ref qs, .ref qc, .int x14, .int sz, .int rm])), (qc, .inr (1, [.ref qf, .ref qg])), (qf, .inl (k.1, 19, .inl sf)), (qg, .inl (k.1, 19, .inl lf))] := hD
    exact krv (wo := wo_CWr_addLikely k h0 qc qf qg qs lo sz rm sf lf x pt) hx hb hr hlk hP hD hS (x14, sz, sf, lf) () (by subst ex14; simp [po_CWr_addLikely, aLk, c1]) trivial [0, 1, 2, 3] rfl (by decide) (Nat.le_of_ble_eq_true rfl) (Nat.le_of_ble_eq_true rfl) d_CWr_addLikely_19

def wo_CWr_addOther (k : gK) (h0 qc qf qg : Nat) (qs : Nat) (lo : Int32) (sz : Int32) (rm : Int32) (sf : Nat → Int32) (lf : Nat → Int32) (x : Int32) (pt : Int32) (zz : Unit) (uu : Int32 × Int32 × (Nat → Int32) × (Nat → Int32)) : va_W := match zz, uu with
  | _, (lo2, sz2, sf2, lf2) => [(h0, .inr (4, [.ref qs, .ref qc, .int lo2, .int sz2, .int rm])), (qc, .inr (1, [.ref qf, .ref qg])), (qf, .inl (k.1, 19, .inl sf2)), (qg, .inl (k.1, 19, .inl lf2))]
def ex_CWr_addOther (k : gK) (h0 qc qf qg : Nat) (qs : Nat) (lo : Int32) (sz : Int32) (rm : Int32) (sf : Nat → Int32) (lf : Nat → Int32) (x : Int32) (pt : Int32) (zz : Unit) (uu : Int32 × Int32 × (Nat → Int32) × (Nat → Int32)) : Prop := match zz, uu with
  | _, (lo2, sz2, sf2, lf2) => True
def po_CWr_addOther (k : gK) (h0 qc qf qg : Nat) (qs : Nat) (lo : Int32) (sz : Int32) (rm : Int32) (sf : Nat → Int32) (lf : Nat → Int32) (x : Int32) (pt : Int32) (uu : Int32 × Int32 × (Nat → Int32) × (Nat → Int32)) : Prop := match uu with
  | (lo2, sz2, sf2, lf2) => lo2 = (aOt lo sz sf lf x pt).1 ∧ sz2 = (aOt lo sz sf lf x pt).2.1 ∧ sf2 = (aOt lo sz sf lf x pt).2.2.1 ∧ lf2 = (aOt lo sz sf lf x pt).2.2.2
def qc_CWr_addOther (D : va_G) (k : gK) (h0 qc qf qg : Nat) (qs : Nat) (lo : Int32) (sz : Int32) (rm : Int32) (sf : Nat → Int32) (lf : Nat → Int32) (x : Int32) (pt : Int32) (A : Nat → Prop) : Array Value → State → Outcome → State → Prop := va_Qv (po_CWr_addOther k h0 qc qf qg qs lo sz rm sf lf x pt) (fun uu t => ∃ zz, ex_CWr_addOther k h0 qc qf qg qs lo sz rm sf lf x pt zz uu ∧ GP D A (wo_CWr_addOther k h0 qc qf qg qs lo sz rm sf lf x pt zz uu) t) A
set_option maxHeartbeats 1000000 in
set_option maxRecDepth 100000 in
theorem c_CWr_addOther (l : Launch) (hl9 : l.stackTraces = false) (D : va_G) (k : gK) (h0 qc qf qg : Nat) (zsz : Nat) (qs : Nat) (lo : Int32) (sz : Int32) (rm : Int32) (sf : Nat → Int32) (lf : Nat → Int32) (x : Int32) (pt : Int32) : Met l y_CWr_addOther (.code y_CWr_addOther b_CWr_addOther 3 none :: AW) ({ frames := 3, cells := 0, slots := 0, locals := 65 }) (va_Pc [.ref h0, .int x, .int pt] (GG D k [(h0, .inr (4, [.ref qs, .ref qc, .int lo, .int sz, .int rm])), (qc, .inr (1, [.ref qf, .ref qg])), (qf, .inl (k.1, 19, .inl sf)), (qg, .inl (k.1, 19, .inl lf))] zsz)) (qc_CWr_addOther D k h0 qc qf qg qs lo sz rm sf lf x pt (va_A [(h0, .inr (4, [.ref qs, .ref qc, .int lo, .int sz, .int rm])), (qc, .inr (1, [.ref qf, .ref qg])), (qf, .inl (k.1, 19, .inl sf)), (qg, .inl (k.1, 19, .inl lf))] zsz)) 0 0 (va_A [(h0, .inr (4, [.ref qs, .ref qc, .int lo, .int sz, .int rm])), (qc, .inr (1, [.ref qf, .ref qg])), (qf, .inl (k.1, 19, .inl sf)), (qg, .inl (k.1, 19, .inl lf))] zsz) := by
  refine kMet (ws := [(h0, .inr (4, [.ref qs, .ref qc, .int lo, .int sz, .int rm])), (qc, .inr (1, [.ref qf, .ref qg])), (qf, .inl (k.1, 19, .inl sf)), (qg, .inl (k.1, 19, .inl lf))]) (Qc := qc_CWr_addOther D k h0 qc qf qg qs lo sz rm sf lf x pt) (by decide) (Nat.le_of_ble_eq_true rfl) (fun p e s m below meth c ls A H Cc hP hD hA hS hl => ?_)
  obtain ⟨hx, hb, hml, hr, hlk, hown, hts, hK, hE, hin⟩ := Cc
  have hl : lv_has ls 3 [(0, .ref h0), (1, .int x), (2, .int pt)] := hl
  refine lv_aload_n hx hb d_CWr_addOther_0 rfl (lv_at hl 0 rfl) ?_
  refine va_get (D := D) (ci := 4) (v := .int sz) (C := R_CWr) (T := T_CWr) (N := 5) hx hb hts inw_CWr hown hK hP 0 rfl rfl 3 (by decide) (hts (.fieldLink R_CWr 24 "LikelyBits$CodedWriter" "size" "I") mw_80) (fun _ h9 => h9) rfl d_CWr_addOther_1 ?_
  refine lv_iload_n hx hb d_CWr_addOther_4 rfl (lv_at hl 2 rfl) ?_
  refine lv_icmp_ge (tgt := 21) hx hb d_CWr_addOther_5 (by decide) (fun c1 => ?_) (fun c1 => ?_)
  · refine lv_aload_n hx hb d_CWr_addOther_21 rfl (lv_at hl 0 rfl) ?_
    refine lv_iload_n hx hb d_CWr_addOther_22 rfl (lv_at hl 2 rfl) ?_
    refine va_put (D := D) (ci := 4) (v := .int pt) (ty := .int) (C := R_CWr) (T := T_CWr) (N := 5) hx hb hts inw_CWr ty_CWr tyok_CWr nm_CWr hown hK hP hD hS 0 rfl rfl 3 (by decide) (hts (.fieldLink R_CWr 24 "LikelyBits$CodedWriter" "size" "I") mw_80) (fun _ h9 => h9) rfl (by decide +kernel) rfl rfl (Nat.le_of_ble_eq_true rfl) d_CWr_addOther_23 (fun H locs hP hD hS => ?_)
    have hP : va_P D vwCl [(h0, .inr (4, [.ref qs, .ref qc, .int lo, .int pt, .int rm])), (qc, .inr (1, [.ref qf, .ref qg])), (qf, .inl (k.1, 19, .inl sf)), (qg, .inl (k.1, 19, .inl lf))] H := hP
    have hD : va_D A [(h0, .inr (4, [.ref qs, .ref qc, .int lo, .int pt, .int rm])), (qc, .inr (1, [.ref qf, .ref qg])), (qf, .inl (k.1, 19, .inl sf)), (qg, .inl (k.1, 19, .inl lf))] := hD
    refine lv_aload_n hx hb d_CWr_addOther_26 rfl (lv_at hl 0 rfl) ?_
    refine va_get (D := D) (ci := 4) (v := .ref qc) (C := R_CWr) (T := T_CWr) (N := 5) hx hb hts inw_CWr hown hK hP 0 rfl rfl 1 (by decide) (hts (.fieldLink R_CWr 15 "LikelyBits$CodedWriter" "contexts" "LLikelyBits$Contexts;") mw_77) (fun _ h9 => h9) rfl d_CWr_addOther_27 ?_
    refine lv_iload_n hx hb d_CWr_addOther_30 rfl (lv_at hl 1 rfl) ?_
    refine kcv (wc := [(qc, .inr (1, [.ref qf, .ref qg])), (qf, .inl (k.1, 19, .inl sf)), (qg, .inl (k.1, 19, .inl lf))]) (wr := [(h0, .inr (4, [.ref qs, .ref qc, .int lo, .int pt, .int rm]))]) (va_runV (As := [.int x]) (rest := []) ⟨hx, hb, hml, hown, hts⟩ (c_Cxt_afterOther l hl9 D k qc qf qg H.size sf lf x ) (cwV 1 hts (gV mw_101 mw_102 mw_103 mw_23 mw_104) rfl rfl rfl (by decide +kernel) ⟨(Nat.le_of_ble_eq_true rfl), (Nat.le_of_ble_eq_true rfl)⟩) (kRecv (q := (R_Cxt, T_Cxt, 2)) (q0 := 1) (ci := 1) hK hP rfl rfl (kPre (wc := [(qc, .inr (1, [.ref qf, .ref qg])), (qf, .inl (k.1, 19, .inl sf)), (qg, .inl (k.1, 19, .inl lf))]) hE hK hP hD hS hA [1, 2, 3] rfl (by decide))) rfl rfl hl.1 rfl (lv_room (Nat.le_of_ble_eq_true rfl)) d_CWr_addOther_31 ⟨(Nat.le_of_ble_eq_true rfl), (Nat.le_of_ble_eq_true rfl)⟩) hP hD hS hA [1, 2, 3] [0] rfl rfl (by decide) (by decide) (fun zz uu H locs hw5 hz6 hP hD hS => ?_)
    obtain ⟨sf_2, lf_3⟩ := uu
    have hw5 : sf_2 = (cOt sf lf x).1 ∧ lf_3 = (cOt sf lf x).2 := hw5
    have hP : va_P D vwCl [(h0, .inr (4, [.ref qs, .ref qc, .int lo, .int pt, .int rm])), (qc, .inr (1, [.ref qf, .ref qg])), (qf, .inl (k.1, 19, .inl sf_2)), (qg, .inl (k.1, 19, .inl lf_3))] H := hP
    have hD : va_D A [(h0, .inr (4, [.ref qs, .ref qc, .int lo, .int pt, .int rm])), (qc, .inr (1, [.ref qf, .ref qg])), (qf, .inl (k.1, 19, .inl sf_2)), (qg, .inl (k.1, 19, .inl lf_3))] := hD
    exact krv (wo := wo_CWr_addOther k h0 qc qf qg qs lo sz rm sf lf x pt) hx hb hr hlk hP hD hS (lo, pt, sf_2, lf_3) () (by obtain ⟨rfl, rfl⟩ := hw5; simp [po_CWr_addOther, aOt, c1]) trivial [0, 1, 2, 3] rfl (by decide) (Nat.le_of_ble_eq_true rfl) (Nat.le_of_ble_eq_true rfl) d_CWr_addOther_34
  · refine lv_aload_n hx hb d_CWr_addOther_8 rfl (lv_at hl 0 rfl) ?_
    refine lv_dup hx hb d_CWr_addOther_9 rfl ?_
    refine va_get (D := D) (ci := 4) (v := .int lo) (C := R_CWr) (T := T_CWr) (N := 5) hx hb hts inw_CWr hown hK hP 0 rfl rfl 2 (by decide) (hts (.fieldLink R_CWr 19 "LikelyBits$CodedWriter" "low" "I") mw_78) (fun _ h9 => h9) rfl d_CWr_addOther_10 ?_
    refine lv_iload_n hx hb d_CWr_addOther_13 rfl (lv_at hl 2 rfl) ?_
    refine lv_iadd hx hb d_CWr_addOther_14 ?_
    refine lv_topi (fun x7 ex7 => ?_)
    refine va_put (D := D) (ci := 4) (v := .int x7) (ty := .int) (C := R_CWr) (T := T_CWr) (N := 5) hx hb hts inw_CWr ty_CWr tyok_CWr nm_CWr hown hK hP hD hS 0 rfl rfl 2 (by decide) (hts (.fieldLink R_CWr 19 "LikelyBits$CodedWriter" "low" "I") mw_78) (fun _ h9 => h9) rfl (by decide +kernel) rfl rfl (Nat.le_of_ble_eq_true rfl) d_CWr_addOther_15 (fun H locs hP hD hS => ?_)
    have hP : va_P D vwCl [(h0, .inr (4, [.ref qs, .ref qc, .int x7, .int sz, .int rm])), (qc, .inr (1, [.ref qf, .ref qg])), (qf, .inl (k.1, 19, .inl sf)), (qg, .inl (k.1, 19, .inl lf))] H := hP
    have hD : va_D A [(h0, .inr (4, [.ref qs, .ref qc, .int x7, .int sz, .int rm])), (qc, .inr (1, [.ref qf, .ref qg])), (qf, .inl (k.1, 19, .inl sf)), (qg, .inl (k.1, 19, .inl lf))] := hD
    refine lv_goto (tgt := 26) hx hb d_CWr_addOther_18 (by decide) ?_
    refine lv_aload_n hx hb d_CWr_addOther_26 rfl (lv_at hl 0 rfl) ?_
    refine va_get (D := D) (ci := 4) (v := .ref qc) (C := R_CWr) (T := T_CWr) (N := 5) hx hb hts inw_CWr hown hK hP 0 rfl rfl 1 (by decide) (hts (.fieldLink R_CWr 15 "LikelyBits$CodedWriter" "contexts" "LLikelyBits$Contexts;") mw_77) (fun _ h9 => h9) rfl d_CWr_addOther_27 ?_
    refine lv_iload_n hx hb d_CWr_addOther_30 rfl (lv_at hl 1 rfl) ?_
    refine kcv (wc := [(qc, .inr (1, [.ref qf, .ref qg])), (qf, .inl (k.1, 19, .inl sf)), (qg, .inl (k.1, 19, .inl lf))]) (wr := [(h0, .inr (4, [.ref qs, .ref qc, .int x7, .int sz, .int rm]))]) (va_runV (As := [.int x]) (rest := []) ⟨hx, hb, hml, hown, hts⟩ (c_Cxt_afterOther l hl9 D k qc qf qg H.size sf lf x ) (cwV 1 hts (gV mw_101 mw_102 mw_103 mw_23 mw_104) rfl rfl rfl (by decide +kernel) ⟨(Nat.le_of_ble_eq_true rfl), (Nat.le_of_ble_eq_true rfl)⟩) (kRecv (q := (R_Cxt, T_Cxt, 2)) (q0 := 1) (ci := 1) hK hP rfl rfl (kPre (wc := [(qc, .inr (1, [.ref qf, .ref qg])), (qf, .inl (k.1, 19, .inl sf)), (qg, .inl (k.1, 19, .inl lf))]) hE hK hP hD hS hA [1, 2, 3] rfl (by decide))) rfl rfl hl.1 rfl (lv_room (Nat.le_of_ble_eq_true rfl)) d_CWr_addOther_31 ⟨(Nat.le_of_ble_eq_true rfl), (Nat.le_of_ble_eq_true rfl)⟩) hP hD hS hA [1, 2, 3] [0] rfl rfl (by decide) (by decide) (fun zz uu H locs hw11 hz12 hP hD hS => ?_)
    obtain ⟨sf_8, lf_9⟩ := uu
    have hw11 : sf_8 = (cOt sf lf x).1 ∧ lf_9 = (cOt sf lf x).2 := hw11
    have hP : va_P D vwCl [(h0, .inr (4, [.ref qs, .ref qc, .int x7, .int sz, .int rm])), (qc, .inr (1, [.ref qf, .ref qg])), (qf, .inl (k.1, 19, .inl sf_8)), (qg, .inl (k.1, 19, .inl lf_9))] H := hP
    have hD : va_D A [(h0, .inr (4, [.ref qs, .ref qc, .int x7, .int sz, .int rm])), (qc, .inr (1, [.ref qf, .ref qg])), (qf, .inl (k.1, 19, .inl sf_8)), (qg, .inl (k.1, 19, .inl lf_9))] := hD
    exact krv (wo := wo_CWr_addOther k h0 qc qf qg qs lo sz rm sf lf x pt) hx hb hr hlk hP hD hS (x7, sz, sf_8, lf_9) () (by obtain ⟨rfl, rfl⟩ := hw11; subst ex7; simp [po_CWr_addOther, aOt, c1]) trivial [0, 1, 2, 3] rfl (by decide) (Nat.le_of_ble_eq_true rfl) (Nat.le_of_ble_eq_true rfl) d_CWr_addOther_34
end
section
def wo_CWr_enlarge (k : gK) (h0 qs qr qa : Nat) (qc : Nat) (lo : Int32) (sz : Int32) (rm : Int32) (a : Int32) (n : Nat) (f : Nat → Int32) (u : Int32) (L : List Int32) (zz : Nat × (Nat → Int32) × Int32) (uu : Int32 × Int32 × Int32 × Nat × List Int32) : va_W := match zz, uu with
  | (q2, f2, u2), (lo2, sz2, rm2, n2, L2) => [(h0, .inr (4, [.ref qs, .ref qc, .int lo2, .int sz2, .int rm2])), (qs, .inr (2, [.ref qr, .int a])), (qr, .inr (0, [.ref q2, .int u2])), (q2, .inl (k.1, n2, .inl f2))]
def ex_CWr_enlarge (k : gK) (h0 qs qr qa : Nat) (qc : Nat) (lo : Int32) (sz : Int32) (rm : Int32) (a : Int32) (n : Nat) (f : Nat → Int32) (u : Int32) (L : List Int32) (zz : Nat × (Nat → Int32) × Int32) (uu : Int32 × Int32 × Int32 × Nat × List Int32) : Prop := match zz, uu with
  | (q2, f2, u2), (lo2, sz2, rm2, n2, L2) => row_ok n2 f2 u2 L2
def po_CWr_enlarge (k : gK) (h0 qs qr qa : Nat) (qc : Nat) (lo : Int32) (sz : Int32) (rm : Int32) (a : Int32) (n : Nat) (f : Nat → Int32) (u : Int32) (L : List Int32) (uu : Int32 × Int32 × Int32 × Nat × List Int32) : Prop := match uu with
  | (lo2, sz2, rm2, n2, L2) => lo2 = (enl 15 a lo sz rm n L).1 ∧ sz2 = (enl 15 a lo sz rm n L).2.1 ∧ rm2 = (enl 15 a lo sz rm n L).2.2.1 ∧ n2 = (enl 15 a lo sz rm n L).2.2.2.1 ∧ L2 = (enl 15 a lo sz rm n L).2.2.2.2
def qc_CWr_enlarge (D : va_G) (k : gK) (h0 qs qr qa : Nat) (qc : Nat) (lo : Int32) (sz : Int32) (rm : Int32) (a : Int32) (n : Nat) (f : Nat → Int32) (u : Int32) (L : List Int32) (A : Nat → Prop) : Array Value → State → Outcome → State → Prop := va_Qv (po_CWr_enlarge k h0 qs qr qa qc lo sz rm a n f u L) (fun uu t => ∃ zz, ex_CWr_enlarge k h0 qs qr qa qc lo sz rm a n f u L zz uu ∧ GP D A (wo_CWr_enlarge k h0 qs qr qa qc lo sz rm a n f u L zz uu) t) A
set_option maxHeartbeats 1000000 in
set_option maxRecDepth 100000 in
theorem lp_CWr_enlarge_2 (l : Launch) (hl9 : l.stackTraces = false) (D : va_G) (k : gK) (h0 qs qr qa : Nat) (qc : Nat) (lo : Int32) (sz : Int32) (rm : Int32) (a : Int32) (n : Nat) (f : Nat → Int32) (u : Int32) (L : List Int32) {p : Program} {e : Env} {s : State} {m : MethodId} {below : List Frame} {meth : Method} {c : Code} {A : Nat → Prop} (Cc : Cx p s m ([.ref h0] : List Value).toArray meth c b_CWr_enlarge 2 none y_CWr_enlarge.cls y_CWr_enlarge.name D k A) (hA : ∀ q : Nat, s.heap.size ≤ q → A q) :
    ∀ (t : Nat) (i1 : Int32) (lo1 : Int32) (sz1 : Int32) (rm1 : Int32) (qa1 : Nat) (n1 : Nat) (f1 : Nat → Int32) (u1 : Int32) (L1 : List Int32), row_ok n1 f1 u1 L1 → enl 15 a lo sz rm n L = enl t a lo1 sz1 rm1 n1 L1 → i1 = nI (15 - t) → t ≤ 15 → ∀ (H : Heap) (locs : List Loc) (cells slots : Nat), cells ≤ n1 - n ∧ slots ≤ 2 * (n1 - n) ∧ n ≤ n1 → va_P D vwCl [(h0, .inr (4, [.ref qs, .ref qc, .int lo1, .int sz1, .int rm1])), (qs, .inr (2, [.ref qr, .int a])), (qr, .inr (0, [.ref qa1, .int u1])), (qa1, .inl (k.1, n1, .inl f1))] H → va_D A [(h0, .inr (4, [.ref qs, .ref qc, .int lo1, .int sz1, .int rm1])), (qs, .inr (2, [.ref qr, .int a])), (qr, .inr (0, [.ref qa1, .int u1])), (qa1, .inl (k.1, n1, .inl f1))] → va_S A s.heap H locs → ∀ ls : Array Slot, lv_has ls 2 [(1, .int i1), (0, .ref h0)] → W p l e ({ frames := 5, cells := (enl 15 a lo sz rm n L).2.2.2.1 - n, slots := 2 * ((enl 15 a lo sz rm n L).2.2.2.1 - n), locals := 146 }) s m ([.ref h0] : List Value).toArray below meth c H locs cells slots (MQ below (qc_CWr_enlarge D k h0 qs qr qa qc lo sz rm a n f u L A) ([.ref h0] : List Value).toArray s ((enl 15 a lo sz rm n L).2.2.2.1 - n) (2 * ((enl 15 a lo sz rm n L).2.2.2.1 - n)) A) (F0 m 2 ls []) := by
  have Cc9 := Cc
  obtain ⟨hx, hb, hml, hr, hlk, hown, hts, hK, hE, hin⟩ := Cc
  intro t
  induction t with
  | zero =>
    intro i1 lo1 sz1 rm1 qa1 n1 f1 u1 L1 hR1 hF hi ht H locs cells slots hrm hP hD hS ls hl
    refine lv_iload_n hx hb d_CWr_enlarge_2 rfl (lv_at hl 0 rfl) ?_
    refine lv_bipush (v := 15) hx hb d_CWr_enlarge_3 (by decide) ?_
    refine lv_icmp_ge (tgt := 64) hx hb d_CWr_enlarge_5 (by decide) (fun c1 => ?_) (fun c1 => ?_)
    · exact krv (wo := wo_CWr_enlarge k h0 qs qr qa qc lo sz rm a n f u L) hx hb hr hlk hP hD hS (lo1, sz1, rm1, n1, L1) (qa1, f1, u1) (by simp only [po_CWr_enlarge]; rw [hF]; simp [enl]) hR1 [0, 1, 2, 3] rfl (by decide) (by rw [hF]; simp only [enl]; omega) (by rw [hF]; simp only [enl]; omega) d_CWr_enlarge_64
    · exact absurd (by rw [hi]; decide) c1
  | succ t ih =>
    intro i1 lo1 sz1 rm1 qa1 n1 f1 u1 L1 hR1 hF hi ht H locs cells slots hrm hP hD hS ls hl
    refine lv_iload_n hx hb d_CWr_enlarge_2 rfl (lv_at hl 0 rfl) ?_
    refine lv_bipush (v := 15) hx hb d_CWr_enlarge_3 (by decide) ?_
    refine lv_icmp_ge (tgt := 64) hx hb d_CWr_enlarge_5 (by decide) (fun c2 => ?_) (fun c2 => ?_)
    · exact absurd (by rw [hi] at c2; exact c2) (i_15 (by omega))
    · refine lv_aload_n hx hb d_CWr_enlarge_8 rfl (lv_at hl 1 rfl) ?_
      refine va_get (D := D) (ci := 4) (v := .int sz1) (C := R_CWr) (T := T_CWr) (N := 5) hx hb hts inw_CWr hown hK hP 0 rfl rfl 3 (by decide) (hts (.fieldLink R_CWr 24 "LikelyBits$CodedWriter" "size" "I") mw_80) (fun _ h9 => h9) rfl d_CWr_enlarge_9 ?_
      refine lv_ldc (v := 32768) hx hb hown (hts (.constant R_CWr 23 32768) mw_79) d_CWr_enlarge_12 ?_
      refine lv_icmp_ge (tgt := 64) hx hb d_CWr_enlarge_14 (by decide) (fun c3 => ?_) (fun c3 => ?_)
      · exact krv (wo := wo_CWr_enlarge k h0 qs qr qa qc lo sz rm a n f u L) hx hb hr hlk hP hD hS (lo1, sz1, rm1, n1, L1) (qa1, f1, u1) (by simp only [po_CWr_enlarge]; rw [hF, enl, if_pos c3]; simp) hR1 [0, 1, 2, 3] rfl (by decide) (by rw [hF, enl, if_pos c3]; dsimp only; omega) (by rw [hF, enl, if_pos c3]; dsimp only; omega) d_CWr_enlarge_64
      · refine lv_aload_n hx hb d_CWr_enlarge_17 rfl (lv_at hl 1 rfl) ?_
        refine lv_dup hx hb d_CWr_enlarge_18 rfl ?_
        refine va_get (D := D) (ci := 4) (v := .int sz1) (C := R_CWr) (T := T_CWr) (N := 5) hx hb hts inw_CWr hown hK hP 0 rfl rfl 3 (by decide) (hts (.fieldLink R_CWr 24 "LikelyBits$CodedWriter" "size" "I") mw_80) (fun _ h9 => h9) rfl d_CWr_enlarge_19 ?_
        refine lv_iconst (v := 2) hx hb d_CWr_enlarge_22 (by decide) ?_
        refine lv_imul hx hb d_CWr_enlarge_23 ?_
        refine lv_topi (fun x4 ex4 => ?_)
        refine va_put (D := D) (ci := 4) (v := .int x4) (ty := .int) (C := R_CWr) (T := T_CWr) (N := 5) hx hb hts inw_CWr ty_CWr tyok_CWr nm_CWr hown hK hP hD hS 0 rfl rfl 3 (by decide) (hts (.fieldLink R_CWr 24 "LikelyBits$CodedWriter" "size" "I") mw_80) (fun _ h9 => h9) rfl (by decide +kernel) rfl rfl (Nat.le_of_ble_eq_true rfl) d_CWr_enlarge_24 (fun H locs hP hD hS => ?_)
        have hP : va_P D vwCl [(h0, .inr (4, [.ref qs, .ref qc, .int lo1, .int x4, .int rm1])), (qs, .inr (2, [.ref qr, .int a])), (qr, .inr (0, [.ref qa1, .int u1])), (qa1, .inl (k.1, n1, .inl f1))] H := hP
        have hD : va_D A [(h0, .inr (4, [.ref qs, .ref qc, .int lo1, .int x4, .int rm1])), (qs, .inr (2, [.ref qr, .int a])), (qr, .inr (0, [.ref qa1, .int u1])), (qa1, .inl (k.1, n1, .inl f1))] := hD
        refine lv_aload_n hx hb d_CWr_enlarge_27 rfl (lv_at hl 1 rfl) ?_
        refine lv_dup hx hb d_CWr_enlarge_28 rfl ?_
        refine va_get (D := D) (ci := 4) (v := .int lo1) (C := R_CWr) (T := T_CWr) (N := 5) hx hb hts inw_CWr hown hK hP 0 rfl rfl 2 (by decide) (hts (.fieldLink R_CWr 19 "LikelyBits$CodedWriter" "low" "I") mw_78) (fun _ h9 => h9) rfl d_CWr_enlarge_29 ?_
        refine lv_iconst (v := 2) hx hb d_CWr_enlarge_32 (by decide) ?_
        refine lv_imul hx hb d_CWr_enlarge_33 ?_
        refine lv_topi (fun x5 ex5 => ?_)
        refine va_put (D := D) (ci := 4) (v := .int x5) (ty := .int) (C := R_CWr) (T := T_CWr) (N := 5) hx hb hts inw_CWr ty_CWr tyok_CWr nm_CWr hown hK hP hD hS 0 rfl rfl 2 (by decide) (hts (.fieldLink R_CWr 19 "LikelyBits$CodedWriter" "low" "I") mw_78) (fun _ h9 => h9) rfl (by decide +kernel) rfl rfl (Nat.le_of_ble_eq_true rfl) d_CWr_enlarge_34 (fun H locs hP hD hS => ?_)
        have hP : va_P D vwCl [(h0, .inr (4, [.ref qs, .ref qc, .int x5, .int x4, .int rm1])), (qs, .inr (2, [.ref qr, .int a])), (qr, .inr (0, [.ref qa1, .int u1])), (qa1, .inl (k.1, n1, .inl f1))] H := hP
        have hD : va_D A [(h0, .inr (4, [.ref qs, .ref qc, .int x5, .int x4, .int rm1])), (qs, .inr (2, [.ref qr, .int a])), (qr, .inr (0, [.ref qa1, .int u1])), (qa1, .inl (k.1, n1, .inl f1))] := hD
        refine lv_aload_n hx hb d_CWr_enlarge_37 rfl (lv_at hl 1 rfl) ?_
        refine lv_dup hx hb d_CWr_enlarge_38 rfl ?_
        refine va_get (D := D) (ci := 4) (v := .int rm1) (C := R_CWr) (T := T_CWr) (N := 5) hx hb hts inw_CWr hown hK hP 0 rfl rfl 4 (by decide) (hts (.fieldLink R_CWr 27 "LikelyBits$CodedWriter" "room" "I") mw_81) (fun _ h9 => h9) rfl d_CWr_enlarge_39 ?_
        refine lv_iconst (v := 1) hx hb d_CWr_enlarge_42 (by decide) ?_
        refine lv_isub hx hb d_CWr_enlarge_43 ?_
        refine lv_topi (fun x6 ex6 => ?_)
        refine va_put (D := D) (ci := 4) (v := .int x6) (ty := .int) (C := R_CWr) (T := T_CWr) (N := 5) hx hb hts inw_CWr ty_CWr tyok_CWr nm_CWr hown hK hP hD hS 0 rfl rfl 4 (by decide) (hts (.fieldLink R_CWr 27 "LikelyBits$CodedWriter" "room" "I") mw_81) (fun _ h9 => h9) rfl (by decide +kernel) rfl rfl (Nat.le_of_ble_eq_true rfl) d_CWr_enlarge_44 (fun H locs hP hD hS => ?_)
        have hP : va_P D vwCl [(h0, .inr (4, [.ref qs, .ref qc, .int x5, .int x4, .int x6])), (qs, .inr (2, [.ref qr, .int a])), (qr, .inr (0, [.ref qa1, .int u1])), (qa1, .inl (k.1, n1, .inl f1))] H := hP
        have hD : va_D A [(h0, .inr (4, [.ref qs, .ref qc, .int x5, .int x4, .int x6])), (qs, .inr (2, [.ref qr, .int a])), (qr, .inr (0, [.ref qa1, .int u1])), (qa1, .inl (k.1, n1, .inl f1))] := hD
        refine lv_aload_n hx hb d_CWr_enlarge_47 rfl (lv_at hl 1 rfl) ?_
        refine va_get (D := D) (ci := 4) (v := .int x6) (C := R_CWr) (T := T_CWr) (N := 5) hx hb hts inw_CWr hown hK hP 0 rfl rfl 4 (by decide) (hts (.fieldLink R_CWr 27 "LikelyBits$CodedWriter" "room" "I") mw_81) (fun _ h9 => h9) rfl d_CWr_enlarge_48 ?_
        refine lv_if_ne (tgt := 58) hx hb d_CWr_enlarge_51 (by decide) (fun c7 => ?_) (fun c7 => ?_)
        · obtain ⟨x8, ex8⟩ : ∃ y : Int32, y = i1 + 1 := ⟨_, rfl⟩
          refine lv_iinc (v := x8) (lv' := [(1, .int x8), (0, .ref h0)]) hx hb d_CWr_enlarge_58 hl (k := 0) rfl (by rw [ex8]; rfl) (by decide) rfl (fun ls hl => ?_)
          refine lv_goto (tgt := 2) hx hb d_CWr_enlarge_61 (by decide) ?_
          exact ih x8 x5 x4 x6 qa1 n1 f1 u1 L1 (by assumption) (by subst ex8; subst ex6; subst ex5; subst ex4; rw [hF, enl, if_neg c3, if_neg c7]) (by rw [ex8, hi, show 15 - t = (15 - (t + 1)) + 1 by omega]; exact nI_1 _) (by omega) H _ _ _ (by exact ⟨by omega, by omega, by omega⟩) (ka_P hP (is := [0, 1, 2, 3]) rfl) (hD.sub [0, 1, 2, 3] (by decide) rfl) hS ls (lv_sub hl [0, 1] rfl)
        · refine lv_aload_n hx hb d_CWr_enlarge_54 rfl (lv_at hl 1 rfl) ?_
          have hb1 := bo_le a x5 n1 L1
          have hb2 : (bo a x5 n1 L1).2.2.1 ≤ (enl 15 a lo sz rm n L).2.2.2.1 := by rw [hF, enl, if_neg c3, if_pos (by subst ex6; subst ex5; subst ex4; assumption)]; subst ex6; subst ex5; subst ex4; exact enl_le _ _ _ _ _ _ _
          refine kcv (wc := [(h0, .inr (4, [.ref qs, .ref qc, .int x5, .int x4, .int x6])), (qs, .inr (2, [.ref qr, .int a])), (qr, .inr (0, [.ref qa1, .int u1])), (qa1, .inl (k.1, n1, .inl f1))]) (wr := []) (va_runV (As := []) (rest := []) ⟨hx, hb, hml, hown, hts⟩ (c_CWr_byteOut l hl9 D k h0 qs qr qa1 H.size qc x5 x4 x6 a n1 f1 u1 L1 (by assumption)) (cwV 0 hts (gV mw_92 mw_93 mw_94 mw_95 mw_96) rfl rfl rfl (by decide +kernel) ⟨(Nat.le_of_ble_eq_true rfl), (Nat.le_of_ble_eq_true rfl)⟩) (kRecv (q := (R_CWr, T_CWr, 5)) (q0 := 0) (ci := 4) hK hP rfl rfl (kPre (wc := [(h0, .inr (4, [.ref qs, .ref qc, .int x5, .int x4, .int x6])), (qs, .inr (2, [.ref qr, .int a])), (qr, .inr (0, [.ref qa1, .int u1])), (qa1, .inl (k.1, n1, .inl f1))]) hE hK hP hD hS hA [0, 1, 2, 3] rfl (by decide))) rfl rfl hl.1 rfl (lv_room (Nat.le_of_ble_eq_true rfl)) d_CWr_enlarge_55 ⟨(by first | omega | (dsimp only; omega)), (by first | omega | (dsimp only; omega))⟩) hP hD hS hA [0, 1, 2, 3] [] rfl rfl (by decide) (by decide) (fun zz uu H locs hw17 hz18 hP hD hS => ?_)
          obtain ⟨q_13, f_14, u_15⟩ := zz
          obtain ⟨lo_9, rm_10, n_11, L_12⟩ := uu
          have hw17 : lo_9 = (bo a x5 n1 L1).1 ∧ rm_10 = (bo a x5 n1 L1).2.1 ∧ n_11 = (bo a x5 n1 L1).2.2.1 ∧ L_12 = (bo a x5 n1 L1).2.2.2 := hw17
          have hz18 : row_ok n_11 f_14 u_15 L_12 := hz18
          have hP : va_P D vwCl [(h0, .inr (4, [.ref qs, .ref qc, .int lo_9, .int x4, .int rm_10])), (qs, .inr (2, [.ref qr, .int a])), (qr, .inr (0, [.ref q_13, .int u_15])), (q_13, .inl (k.1, n_11, .inl f_14))] H := hP
          have hD : va_D A [(h0, .inr (4, [.ref qs, .ref qc, .int lo_9, .int x4, .int rm_10])), (qs, .inr (2, [.ref qr, .int a])), (qr, .inr (0, [.ref q_13, .int u_15])), (q_13, .inl (k.1, n_11, .inl f_14))] := hD
          obtain ⟨x19, ex19⟩ : ∃ y : Int32, y = i1 + 1 := ⟨_, rfl⟩
          refine lv_iinc (v := x19) (lv' := [(1, .int x19), (0, .ref h0)]) hx hb d_CWr_enlarge_58 hl (k := 0) rfl (by rw [ex19]; rfl) (by decide) rfl (fun ls hl => ?_)
          refine lv_goto (tgt := 2) hx hb d_CWr_enlarge_61 (by decide) ?_
          exact ih x19 lo_9 x4 rm_10 q_13 n_11 f_14 u_15 L_12 (by assumption) (by subst ex19; obtain ⟨rfl, rfl, rfl, rfl⟩ := hw17; subst ex6; subst ex5; subst ex4; rw [hF, enl, if_neg c3, if_pos c7]) (by rw [ex19, hi, show 15 - t = (15 - (t + 1)) + 1 by omega]; exact nI_1 _) (by omega) H _ _ _ (by exact ⟨by omega, by omega, by omega⟩) (ka_P hP (is := [0, 1, 2, 3]) rfl) (hD.sub [0, 1, 2, 3] (by decide) rfl) hS ls (lv_sub hl [0, 1] rfl)
set_option maxHeartbeats 1000000 in
set_option maxRecDepth 100000 in
theorem c_CWr_enlarge (l : Launch) (hl9 : l.stackTraces = false) (D : va_G) (k : gK) (h0 qs qr qa : Nat) (zsz : Nat) (qc : Nat) (lo : Int32) (sz : Int32) (rm : Int32) (a : Int32) (n : Nat) (f : Nat → Int32) (u : Int32) (L : List Int32) (hR : row_ok n f u L) : Met l y_CWr_enlarge (.code y_CWr_enlarge b_CWr_enlarge 2 none :: AW) ({ frames := 5, cells := (enl 15 a lo sz rm n L).2.2.2.1 - n, slots := 2 * ((enl 15 a lo sz rm n L).2.2.2.1 - n), locals := 146 }) (va_Pc [.ref h0] (GG D k [(h0, .inr (4, [.ref qs, .ref qc, .int lo, .int sz, .int rm])), (qs, .inr (2, [.ref qr, .int a])), (qr, .inr (0, [.ref qa, .int u])), (qa, .inl (k.1, n, .inl f))] zsz)) (qc_CWr_enlarge D k h0 qs qr qa qc lo sz rm a n f u L (va_A [(h0, .inr (4, [.ref qs, .ref qc, .int lo, .int sz, .int rm])), (qs, .inr (2, [.ref qr, .int a])), (qr, .inr (0, [.ref qa, .int u])), (qa, .inl (k.1, n, .inl f))] zsz)) ((enl 15 a lo sz rm n L).2.2.2.1 - n) (2 * ((enl 15 a lo sz rm n L).2.2.2.1 - n)) (va_A [(h0, .inr (4, [.ref qs, .ref qc, .int lo, .int sz, .int rm])), (qs, .inr (2, [.ref qr, .int a])), (qr, .inr (0, [.ref qa, .int u])), (qa, .inl (k.1, n, .inl f))] zsz) := by
  refine kMet (ws := [(h0, .inr (4, [.ref qs, .ref qc, .int lo, .int sz, .int rm])), (qs, .inr (2, [.ref qr, .int a])), (qr, .inr (0, [.ref qa, .int u])), (qa, .inl (k.1, n, .inl f))]) (Qc := qc_CWr_enlarge D k h0 qs qr qa qc lo sz rm a n f u L) (by decide) (Nat.le_of_ble_eq_true rfl) (fun p e s m below meth c ls A H Cc hP hD hA hS hl => ?_)
  have Cc9 := Cc
  obtain ⟨hx, hb, hml, hr, hlk, hown, hts, hK, hE, hin⟩ := Cc
  have hl : lv_has ls 2 [(0, .ref h0)] := hl
  refine lv_iconst (v := 0) hx hb d_CWr_enlarge_0 (by decide) ?_
  refine lv_istore_n (lv' := [(1, .int 0), (0, .ref h0)]) hx hb d_CWr_enlarge_1 rfl hl (by decide) rfl (fun ls hl => ?_)
  exact lp_CWr_enlarge_2 l hl9 D k h0 qs qr qa qc lo sz rm a n f u L Cc9 hA 15 0 lo sz rm qa n f u L hR rfl rfl (by decide) H _ _ _ ⟨Nat.zero_le _, Nat.zero_le _, Nat.le_refl _⟩ (ka_P hP (is := [0, 1, 2, 3]) rfl) (hD.sub [0, 1, 2, 3] (by decide) rfl) hS ls (lv_sub hl [0, 1] rfl)
end
section
def ra2 (a rm : Int32) (n : Nat) (L : List Int32) (b : Int32) : Int32 × Nat × List Int32 := (rm - 1, n, sgc L a (sgl L a ||| (b <<< ((rm - 1) &&& 31))))
def rad (a rm : Int32) (n : Nat) (L : List Int32) (b : Int32) : Int32 × Nat × List Int32 := if rm = 0 then (if sgl L a = 255 then ra2 a 7 (apn n L) (app L 0) b else ra2 a 8 (apn n L) (app L 0) b) else ra2 a rm n L b
def rwe : Nat → Int32 → Int32 → Int32 → Nat → List Int32 → Int32 × Nat × List Int32
  | 0, _, _, rm, n, L => (rm, n, L)
  | t + 1, a, i, rm, n, L => rwe t a (i + 1) (rad a rm n L (i &&& 1)).1 (rad a rm n L (i &&& 1)).2.1 (rad a rm n L (i &&& 1)).2.2
theorem rad_le (a rm : Int32) (n : Nat) (L : List Int32) (b : Int32) : n ≤ (rad a rm n L b).2.1 := by
  unfold rad ra2
  repeat' split
  all_goals first | exact apn_le _ _ | exact Nat.le_refl _
theorem rwe_le (t : Nat) : ∀ (a i rm : Int32) (n : Nat) (L : List Int32), n ≤ (rwe t a i rm n L).2.1 := by
  induction t with
  | zero => intro a i rm n L; exact Nat.le_refl _
  | succ t ih => intro a i rm n L; rw [rwe]; exact Nat.le_trans (rad_le a rm n L _) (ih _ _ _ _ _)
theorem gap_out {x : Int32} : x ≤ nI (x.toNatClampNeg - 0) := by
  rcases Int32.lt_or_le x 0 with h | h
  · have h0 : x.toNatClampNeg = 0 := by
      have := Int32.lt_iff_toInt_lt.mp h
      rw [Int32.toNatClampNeg]
      have h1 : (0 : Int32).toInt = 0 := rfl
      omega
    rw [h0]; exact Int32.le_of_lt h
  · obtain ⟨j, hj, rfl⟩ := nI_of (Int32.not_lt.mpr h)
    rw [nI_clamp hj]; exact Int32.le_refl _
theorem gap_in {x : Int32} {t : Nat} (h : t + 1 ≤ x.toNatClampNeg) : ¬ x ≤ nI (x.toNatClampNeg - (t + 1)) := by
  rcases Int32.lt_or_le x 0 with h2 | h2
  · have h0 : x.toNatClampNeg = 0 := by
      have := Int32.lt_iff_toInt_lt.mp h2
      rw [Int32.toNatClampNeg]
      have h1 : (0 : Int32).toInt = 0 := rfl
      omega
    omega
  · obtain ⟨j, hj, rfl⟩ := nI_of (Int32.not_lt.mpr h2)
    rw [nI_clamp hj] at h ⊢
    exact nI_ge (by omega) hj
def spk (L : List Int32) (pl ln cm : Int32) : Int32 := if ln ≤ cm then 255 else rb L (pl + cm)
def scm (ln cm : Int32) : Int32 := if ln ≤ cm then cm else cm + 1
def rbi (L : List Int32) (pl ln la va cm : Int32) : Int32 × Int32 × Int32 × Int32 := if la = 255 then (if spk L pl ln cm ≤ 143 then (spk L pl ln cm, va + (spk L pl ln cm <<< ((9 : Int32) &&& 31)), 7, scm ln cm) else (la, va + 65280, 8, cm)) else (spk L pl ln cm, va + (spk L pl ln cm <<< ((8 : Int32) &&& 31)), 8, scm ln cm)
def rbg (L : List Int32) (pl ln cm : Int32) : Int32 × Int32 × Int32 × Int32 := ((rbi L pl ln (spk L pl ln cm) (spk L pl ln cm <<< ((16 : Int32) &&& 31)) (scm ln cm)).1, (rbi L pl ln (spk L pl ln cm) (spk L pl ln cm <<< ((16 : Int32) &&& 31)) (scm ln cm)).2.1 <<< ((7 : Int32) &&& 31), (rbi L pl ln (spk L pl ln cm) (spk L pl ln cm <<< ((16 : Int32) &&& 31)) (scm ln cm)).2.2.1 - 7, (rbi L pl ln (spk L pl ln cm) (spk L pl ln cm <<< ((16 : Int32) &&& 31)) (scm ln cm)).2.2.2)
def ren : Nat → List Int32 → Int32 → Int32 → Int32 → Int32 → Int32 → Int32 → Int32 → Int32 × Int32 × Int32 × Int32 × Int32
  | 0, _, _, _, la, va, sz, rm, cm => (la, va, sz, rm, cm)
  | t + 1, L, pl, ln, la, va, sz, rm, cm => if (32768 : Int32) ≤ sz then (la, va, sz, rm, cm) else if rm = 0 then ren t L pl ln (rbi L pl ln la va cm).1 ((rbi L pl ln la va cm).2.1 * 2) (sz * 2) ((rbi L pl ln la va cm).2.2.1 - 1) (rbi L pl ln la va cm).2.2.2 else ren t L pl ln la (va * 2) (sz * 2) (rm - 1) cm
def rfL (L : List Int32) (pl ln la va sz rm cm : Int32) (sf lf : Nat → Int32) (x : Int32) : Int32 × Int32 × Int32 × Int32 × Int32 × Int32 × (Nat → Int32) × (Nat → Int32) := (ent 19 lf x, (ren 15 L pl ln la va sz rm cm).1, (ren 15 L pl ln la va sz rm cm).2.1, (ren 15 L pl ln la va sz rm cm).2.2.1, (ren 15 L pl ln la va sz rm cm).2.2.2.1, (ren 15 L pl ln la va sz rm cm).2.2.2.2, cLk sf lf x)
def rfO (L : List Int32) (pl ln la va sz rm cm : Int32) (sf lf : Nat → Int32) (x : Int32) : Int32 × Int32 × Int32 × Int32 × Int32 × Int32 × (Nat → Int32) × (Nat → Int32) := (1 - ent 19 lf x, (ren 15 L pl ln la va sz rm cm).1, (ren 15 L pl ln la va sz rm cm).2.1, (ren 15 L pl ln la va sz rm cm).2.2.1, (ren 15 L pl ln la va sz rm cm).2.2.2.1, (ren 15 L pl ln la va sz rm cm).2.2.2.2, cOt sf lf x)
def rnb (L : List Int32) (pl ln la va sz rm cm : Int32) (sf lf : Nat → Int32) (x : Int32) : Int32 × Int32 × Int32 × Int32 × Int32 × Int32 × (Nat → Int32) × (Nat → Int32) :=
  if prt sf x ≤ jushr va 16 then (if sz - prt sf x < 32768 then (if sz - prt sf x < prt sf x then rfO L pl ln la (va - (prt sf x <<< ((16 : Int32) &&& 31))) (sz - prt sf x) rm cm sf lf x else rfL L pl ln la (va - (prt sf x <<< ((16 : Int32) &&& 31))) (sz - prt sf x) rm cm sf lf x) else (ent 19 lf x, la, va - (prt sf x <<< ((16 : Int32) &&& 31)), sz - prt sf x, rm, cm, sf, lf))
  else if prt sf x ≤ sz - prt sf x then rfO L pl ln la va (prt sf x) rm cm sf lf x else rfL L pl ln la va (prt sf x) rm cm sf lf x
def rrb2 (la le cm : Int32) : Int32 × Int32 × Int32 × Int32 := (jushr la (le - 1) &&& 1, la, le - 1, cm)
def rrb (L : List Int32) (pl ln la le cm : Int32) : Int32 × Int32 × Int32 × Int32 := if le = 0 then (if la = 255 then rrb2 (spk L pl ln cm) 7 (scm ln cm) else rrb2 (spk L pl ln cm) 8 (scm ln cm)) else rrb2 la le cm
end
section
set_option maxRecDepth 20000 in
theorem mw_105 : (Cond.methodLink R_CWr 30 y_Cxt_partOf) ∈ AW := inAW (List.mem_append_right _ (show _ ∈ tables_1_1 ++ (tables_1_2 ++ (tables_1_3 ++ tables_1_4)) from (List.mem_append_right _ (List.mem_append_right _ (List.mem_append_left _ (List.mem_of_getElem? (i := 17) rfl)))))) rfl
set_option maxRecDepth 20000 in
theorem mw_106 : (Cond.instanceMethod y_Cxt_partOf) ∈ AW := inAW (List.mem_append_right _ (show _ ∈ tables_1_1 ++ (tables_1_2 ++ (tables_1_3 ++ tables_1_4)) from (List.mem_append_right _ (List.mem_append_right _ (List.mem_append_left _ (List.mem_of_getElem? (i := 18) rfl)))))) rfl
set_option maxRecDepth 20000 in
theorem mw_107 : (Cond.selects R_Cxt y_Cxt_partOf y_Cxt_partOf) ∈ AW := inAW (List.mem_append_right _ (show _ ∈ tables_1_1 ++ (tables_1_2 ++ (tables_1_3 ++ tables_1_4)) from (List.mem_append_right _ (List.mem_append_right _ (List.mem_append_left _ (List.mem_of_getElem? (i := 19) rfl)))))) rfl
set_option maxRecDepth 20000 in
theorem mw_108 : (Cond.code y_Cxt_partOf b_Cxt_partOf 2 (some .int)) ∈ AW := inAW (List.mem_append_right _ (show _ ∈ tables_1_1 ++ (tables_1_2 ++ (tables_1_3 ++ tables_1_4)) from (List.mem_append_right _ (List.mem_append_right _ (List.mem_append_left _ (List.mem_of_getElem? (i := 20) rfl)))))) rfl
set_option maxRecDepth 20000 in
theorem mw_109 : (Cond.methodLink R_CWr 36 y_Cxt_likelyBitOf) ∈ AW := inAW (List.mem_append_right _ (show _ ∈ tables_1_1 ++ (tables_1_2 ++ (tables_1_3 ++ tables_1_4)) from (List.mem_append_right _ (List.mem_append_right _ (List.mem_append_left _ (List.mem_of_getElem? (i := 24) rfl)))))) rfl
set_option maxRecDepth 20000 in
theorem mw_110 : (Cond.methodLink R_CWr 43 y_CWr_addOther) ∈ AW := inAW (List.mem_append_right _ (show _ ∈ tables_1_1 ++ (tables_1_2 ++ (tables_1_3 ++ tables_1_4)) from (List.mem_append_right _ (List.mem_append_right _ (List.mem_append_left _ (List.mem_of_getElem? (i := 37) rfl)))))) rfl
set_option maxRecDepth 20000 in
theorem mw_111 : (Cond.instanceMethod y_CWr_addOther) ∈ AW := inAW (List.mem_append_right _ (show _ ∈ tables_1_1 ++ (tables_1_2 ++ (tables_1_3 ++ tables_1_4)) from (List.mem_append_right _ (List.mem_append_right _ (List.mem_append_left _ (List.mem_of_getElem? (i := 39) rfl)))))) rfl
set_option maxRecDepth 20000 in
theorem mw_112 : (Cond.selects R_CWr y_CWr_addOther y_CWr_addOther) ∈ AW := inAW (List.mem_append_left _ (List.mem_of_getElem? (i := 4) rfl)) rfl
set_option maxRecDepth 20000 in
theorem mw_113 : (Cond.code y_CWr_addOther b_CWr_addOther 3 none) ∈ AW := inAW (List.mem_append_right _ (show _ ∈ tables_1_1 ++ (tables_1_2 ++ (tables_1_3 ++ tables_1_4)) from (List.mem_append_right _ (List.mem_append_right _ (List.mem_append_left _ (List.mem_of_getElem? (i := 40) rfl)))))) rfl
set_option maxRecDepth 20000 in
theorem mw_114 : (Cond.methodLink R_CWr 46 y_CWr_enlarge) ∈ AW := inAW (List.mem_append_right _ (show _ ∈ tables_1_1 ++ (tables_1_2 ++ (tables_1_3 ++ tables_1_4)) from (List.mem_append_right _ (List.mem_append_right _ (List.mem_append_left _ (List.mem_of_getElem? (i := 50) rfl)))))) rfl
set_option maxRecDepth 20000 in
theorem mw_115 : (Cond.instanceMethod y_CWr_enlarge) ∈ AW := inAW (List.mem_append_right _ (show _ ∈ tables_1_1 ++ (tables_1_2 ++ (tables_1_3 ++ tables_1_4)) from (List.mem_append_right _ (List.mem_append_right _ (List.mem_append_left _ (List.mem_of_getElem? (i := 52) rfl)))))) rfl
set_option maxRecDepth 20000 in
theorem mw_116 : (Cond.selects R_CWr y_CWr_enlarge y_CWr_enlarge) ∈ AW := inAW (List.mem_append_left _ (List.mem_of_getElem? (i := 5) rfl)) rfl
set_option maxRecDepth 20000 in
theorem mw_117 : (Cond.code y_CWr_enlarge b_CWr_enlarge 2 none) ∈ AW := inAW (List.mem_append_right _ (show _ ∈ tables_1_1 ++ (tables_1_2 ++ (tables_1_3 ++ tables_1_4)) from (List.mem_append_right _ (List.mem_append_right _ (List.mem_append_left _ (List.mem_of_getElem? (i := 53) rfl)))))) rfl
set_option maxRecDepth 20000 in
theorem mw_118 : (Cond.methodLink R_CWr 39 y_CWr_addLikely) ∈ AW := inAW (List.mem_append_right _ (show _ ∈ tables_1_1 ++ (tables_1_2 ++ (tables_1_3 ++ tables_1_4)) from (List.mem_append_right _ (List.mem_append_right _ (List.mem_append_left _ (List.mem_of_getElem? (i := 25) rfl)))))) rfl
set_option maxRecDepth 20000 in
theorem mw_119 : (Cond.instanceMethod y_CWr_addLikely) ∈ AW := inAW (List.mem_append_right _ (show _ ∈ tables_1_1 ++ (tables_1_2 ++ (tables_1_3 ++ tables_1_4)) from (List.mem_append_right _ (List.mem_append_right _ (List.mem_append_left _ (List.mem_of_getElem? (i := 27) rfl)))))) rfl
set_option maxRecDepth 20000 in
theorem mw_120 : (Cond.selects R_CWr y_CWr_addLikely y_CWr_addLikely) ∈ AW := inAW (List.mem_append_left _ (List.mem_of_getElem? (i := 3) rfl)) rfl
set_option maxRecDepth 20000 in
theorem mw_121 : (Cond.code y_CWr_addLikely b_CWr_addLikely 3 none) ∈ AW := inAW (List.mem_append_right _ (show _ ∈ tables_1_1 ++ (tables_1_2 ++ (tables_1_3 ++ tables_1_4)) from (List.mem_append_right _ (List.mem_append_right _ (List.mem_append_left _ (List.mem_of_getElem? (i := 28) rfl)))))) rfl
set_option maxRecDepth 20000 in
theorem mw_122 : (Cond.constant R_CWr 72 65535) ∈ AW := inAW (List.mem_append_right _ (show _ ∈ tables_1_1 ++ (tables_1_2 ++ (tables_1_3 ++ tables_1_4)) from (List.mem_append_right _ (List.mem_append_right _ (List.mem_append_left _ (List.mem_of_getElem? (i := 87) rfl)))))) rfl
set_option maxRecDepth 20000 in
theorem mw_123 : (Cond.methodLink R_CWr 73 y_CWr_fillByteOut) ∈ AW := inAW (List.mem_append_right _ (show _ ∈ tables_1_1 ++ (tables_1_2 ++ (tables_1_3 ++ tables_1_4)) from (List.mem_append_right _ (List.mem_append_right _ (List.mem_append_left _ (List.mem_of_getElem? (i := 88) rfl)))))) rfl
set_option maxRecDepth 20000 in
theorem mw_124 : (Cond.instanceMethod y_CWr_fillByteOut) ∈ AW := inAW (List.mem_append_right _ (show _ ∈ tables_1_1 ++ (tables_1_2 ++ (tables_1_3 ++ tables_1_4)) from (List.mem_append_right _ (List.mem_append_right _ (List.mem_append_left _ (List.mem_of_getElem? (i := 90) rfl)))))) rfl
set_option maxRecDepth 20000 in
theorem mw_125 : (Cond.selects R_CWr y_CWr_fillByteOut y_CWr_fillByteOut) ∈ AW := inAW (List.mem_append_left _ (List.mem_of_getElem? (i := 7) rfl)) rfl
set_option maxRecDepth 20000 in
theorem mw_126 : (Cond.code y_CWr_fillByteOut b_CWr_fillByteOut 1 none) ∈ AW := inAW (List.mem_append_right _ (show _ ∈ tables_1_1 ++ (tables_1_2 ++ (tables_1_3 ++ tables_1_4)) from (List.mem_append_right _ (List.mem_append_right _ (List.mem_append_left _ (List.mem_of_getElem? (i := 91) rfl)))))) rfl
def wo_CWr_add (k : gK) (h0 qs qr qa qc qf qg : Nat) (lo : Int32) (sz : Int32) (rm : Int32) (sf : Nat → Int32) (lf : Nat → Int32) (a : Int32) (n : Nat) (f : Nat → Int32) (u : Int32) (L : List Int32) (x : Int32) (bit : Int32) (zz : Nat × (Nat → Int32) × Int32) (uu : Int32 × Int32 × Int32 × (Nat → Int32) × (Nat → Int32) × Nat × List Int32) : va_W := match zz, uu with
  | (q2, f2, u2), (lo2, sz2, rm2, sf2, lf2, n2, L2) => [(h0, .inr (4, [.ref qs, .ref qc, .int lo2, .int sz2, .int rm2])), (qs, .inr (2, [.ref qr, .int a])), (qr, .inr (0, [.ref q2, .int u2])), (q2, .inl (k.1, n2, .inl f2)), (qc, .inr (1, [.ref qf, .ref qg])), (qf, .inl (k.1, 19, .inl sf2)), (qg, .inl (k.1, 19, .inl lf2))]
def ex_CWr_add (k : gK) (h0 qs qr qa qc qf qg : Nat) (lo : Int32) (sz : Int32) (rm : Int32) (sf : Nat → Int32) (lf : Nat → Int32) (a : Int32) (n : Nat) (f : Nat → Int32) (u : Int32) (L : List Int32) (x : Int32) (bit : Int32) (zz : Nat × (Nat → Int32) × Int32) (uu : Int32 × Int32 × Int32 × (Nat → Int32) × (Nat → Int32) × Nat × List Int32) : Prop := match zz, uu with
  | (q2, f2, u2), (lo2, sz2, rm2, sf2, lf2, n2, L2) => row_ok n2 f2 u2 L2
def po_CWr_add (k : gK) (h0 qs qr qa qc qf qg : Nat) (lo : Int32) (sz : Int32) (rm : Int32) (sf : Nat → Int32) (lf : Nat → Int32) (a : Int32) (n : Nat) (f : Nat → Int32) (u : Int32) (L : List Int32) (x : Int32) (bit : Int32) (uu : Int32 × Int32 × Int32 × (Nat → Int32) × (Nat → Int32) × Nat × List Int32) : Prop := match uu with
  | (lo2, sz2, rm2, sf2, lf2, n2, L2) => lo2 = (wad a lo sz rm sf lf n L x bit).1 ∧ sz2 = (wad a lo sz rm sf lf n L x bit).2.1 ∧ rm2 = (wad a lo sz rm sf lf n L x bit).2.2.1 ∧ sf2 = (wad a lo sz rm sf lf n L x bit).2.2.2.1 ∧ lf2 = (wad a lo sz rm sf lf n L x bit).2.2.2.2.1 ∧ n2 = (wad a lo sz rm sf lf n L x bit).2.2.2.2.2.1 ∧ L2 = (wad a lo sz rm sf lf n L x bit).2.2.2.2.2.2
def qc_CWr_add (D : va_G) (k : gK) (h0 qs qr qa qc qf qg : Nat) (lo : Int32) (sz : Int32) (rm : Int32) (sf : Nat → Int32) (lf : Nat → Int32) (a : Int32) (n : Nat) (f : Nat → Int32) (u : Int32) (L : List Int32) (x : Int32) (bit : Int32) (A : Nat → Prop) : Array Value → State → Outcome → State → Prop := va_Qv (po_CWr_add k h0 qs qr qa qc qf qg lo sz rm sf lf a n f u L x bit) (fun uu t => ∃ zz, ex_CWr_add k h0 qs qr qa qc qf qg lo sz rm sf lf a n f u L x bit zz uu ∧ GP D A (wo_CWr_add k h0 qs qr qa qc qf qg lo sz rm sf lf a n f u L x bit zz uu) t) A
set_option maxHeartbeats 1000000 in
set_option maxRecDepth 100000 in
theorem c_CWr_add (l : Launch) (hl9 : l.stackTraces = false) (D : va_G) (k : gK) (h0 qs qr qa qc qf qg : Nat) (zsz : Nat) (lo : Int32) (sz : Int32) (rm : Int32) (sf : Nat → Int32) (lf : Nat → Int32) (a : Int32) (n : Nat) (f : Nat → Int32) (u : Int32) (L : List Int32) (x : Int32) (bit : Int32) (hR : row_ok n f u L) : Met l y_CWr_add (.code y_CWr_add b_CWr_add 4 none :: AW) ({ frames := 6, cells := (wad a lo sz rm sf lf n L x bit).2.2.2.2.2.1 - n, slots := 2 * ((wad a lo sz rm sf lf n L x bit).2.2.2.2.2.1 - n), locals := 167 }) (va_Pc [.ref h0, .int x, .int bit] (GG D k [(h0, .inr (4, [.ref qs, .ref qc, .int lo, .int sz, .int rm])), (qs, .inr (2, [.ref qr, .int a])), (qr, .inr (0, [.ref qa, .int u])), (qa, .inl (k.1, n, .inl f)), (qc, .inr (1, [.ref qf, .ref qg])), (qf, .inl (k.1, 19, .inl sf)), (qg, .inl (k.1, 19, .inl lf))] zsz)) (qc_CWr_add D k h0 qs qr qa qc qf qg lo sz rm sf lf a n f u L x bit (va_A [(h0, .inr (4, [.ref qs, .ref qc, .int lo, .int sz, .int rm])), (qs, .inr (2, [.ref qr, .int a])), (qr, .inr (0, [.ref qa, .int u])), (qa, .inl (k.1, n, .inl f)), (qc, .inr (1, [.ref qf, .ref qg])), (qf, .inl (k.1, 19, .inl sf)), (qg, .inl (k.1, 19, .inl lf))] zsz)) ((wad a lo sz rm sf lf n L x bit).2.2.2.2.2.1 - n) (2 * ((wad a lo sz rm sf lf n L x bit).2.2.2.2.2.1 - n)) (va_A [(h0, .inr (4, [.ref qs, .ref qc, .int lo, .int sz, .int rm])), (qs, .inr (2, [.ref qr, .int a])), (qr, .inr (0, [.ref qa, .int u])), (qa, .inl (k.1, n, .inl f)), (qc, .inr (1, [.ref qf, .ref qg])), (qf, .inl (k.1, 19, .inl sf)), (qg, .inl (k.1, 19, .inl lf))] zsz) := by
  refine kMet (ws := [(h0, .inr (4, [.ref qs, .ref qc, .int lo, .int sz, .int rm])), (qs, .inr (2, [.ref qr, .int a])), (qr, .inr (0, [.ref qa, .int u])), (qa, .inl (k.1, n, .inl f)), (qc, .inr (1, [.ref qf, .ref qg])), (qf, .inl (k.1, 19, .inl sf)), (qg, .inl (k.1, 19, .inl lf))]) (Qc := qc_CWr_add D k h0 qs qr qa qc qf qg lo sz rm sf lf a n f u L x bit) (by decide) (Nat.le_of_ble_eq_true rfl) (fun p e s m below meth c ls A H Cc hP hD hA hS hl => ?_)
  obtain ⟨hx, hb, hml, hr, hlk, hown, hts, hK, hE, hin⟩ := Cc
  have hl : lv_has ls 4 [(0, .ref h0), (1, .int x), (2, .int bit)] := hl
  refine lv_aload_n hx hb d_CWr_add_0 rfl (lv_at hl 0 rfl) ?_
  refine va_get (D := D) (ci := 4) (v := .ref qc) (C := R_CWr) (T := T_CWr) (N := 5) hx hb hts inw_CWr hown hK hP 0 rfl rfl 1 (by decide) (hts (.fieldLink R_CWr 15 "LikelyBits$CodedWriter" "contexts" "LLikelyBits$Contexts;") mw_77) (fun _ h9 => h9) rfl d_CWr_add_1 ?_
  refine lv_iload_n hx hb d_CWr_add_4 rfl (lv_at hl 1 rfl) ?_
  refine kqi (va_runV (As := [.int x]) (rest := []) ⟨hx, hb, hml, hown, hts⟩ (c_Cxt_partOf l hl9 D k qc qf qg sf lf x ) (cwV 1 hts (gV mw_105 mw_106 mw_107 mw_23 mw_108) rfl rfl rfl (by decide +kernel) ⟨(Nat.le_of_ble_eq_true rfl), (Nat.le_of_ble_eq_true rfl)⟩) (kRecv (q := (R_Cxt, T_Cxt, 2)) (q0 := 4) (ci := 1) hK hP rfl rfl (kPreR (wc := [(qc, .inr (1, [.ref qf, .ref qg])), (qf, .inl (k.1, 19, .inl sf)), (qg, .inl (k.1, 19, .inl lf))]) hE hK hP hS [4, 5, 6] rfl)) rfl rfl hl.1 rfl (lv_room (Nat.le_of_ble_eq_true rfl)) d_CWr_add_5 ⟨(Nat.le_of_ble_eq_true rfl), (Nat.le_of_ble_eq_true rfl)⟩) hP hS (fun r1 H locs hw hP hS => ?_)
  replace hw := hw.symm
  subst hw
  refine lv_topi (fun x2 ex2 => ?_)
  refine lv_istore_n (lv' := [(3, .int x2), (0, .ref h0), (1, .int x), (2, .int bit)]) hx hb d_CWr_add_8 rfl hl (by decide) rfl (fun ls hl => ?_)
  refine lv_aload_n hx hb d_CWr_add_9 rfl (lv_at hl 1 rfl) ?_
  refine lv_dup hx hb d_CWr_add_10 rfl ?_
  refine va_get (D := D) (ci := 4) (v := .int sz) (C := R_CWr) (T := T_CWr) (N := 5) hx hb hts inw_CWr hown hK hP 0 rfl rfl 3 (by decide) (hts (.fieldLink R_CWr 24 "LikelyBits$CodedWriter" "size" "I") mw_80) (fun _ h9 => h9) rfl d_CWr_add_11 ?_
  refine lv_iload_n hx hb d_CWr_add_14 rfl (lv_at hl 0 rfl) ?_
  refine lv_isub hx hb d_CWr_add_15 ?_
  refine lv_topi (fun x3 ex3 => ?_)
  refine va_put (D := D) (ci := 4) (v := .int x3) (ty := .int) (C := R_CWr) (T := T_CWr) (N := 5) hx hb hts inw_CWr ty_CWr tyok_CWr nm_CWr hown hK hP hD hS 0 rfl rfl 3 (by decide) (hts (.fieldLink R_CWr 24 "LikelyBits$CodedWriter" "size" "I") mw_80) (fun _ h9 => h9) rfl (by decide +kernel) rfl rfl (Nat.le_of_ble_eq_true rfl) d_CWr_add_16 (fun H locs hP hD hS => ?_)
  have hP : va_P D vwCl [(h0, .inr (4, [.ref qs, .ref qc, .int lo, .int x3, .int rm])), (qs, .inr (2, [.ref qr, .int a])), (qr, .inr (0, [.ref qa, .int u])), (qa, .inl (k.1, n, .inl f)), (qc, .inr (1, [.ref qf, .ref qg])), (qf, .inl (k.1, 19, .inl sf)), (qg, .inl (k.1, 19, .inl lf))] H := hP
  have hD : va_D A [(h0, .inr (4, [.ref qs, .ref qc, .int lo, .int x3, .int rm])), (qs, .inr (2, [.ref qr, .int a])), (qr, .inr (0, [.ref qa, .int u])), (qa, .inl (k.1, n, .inl f)), (qc, .inr (1, [.ref qf, .ref qg])), (qf, .inl (k.1, 19, .inl sf)), (qg, .inl (k.1, 19, .inl lf))] := hD
  refine lv_iload_n hx hb d_CWr_add_19 rfl (lv_at hl 3 rfl) ?_
  refine lv_aload_n hx hb d_CWr_add_20 rfl (lv_at hl 1 rfl) ?_
  refine va_get (D := D) (ci := 4) (v := .ref qc) (C := R_CWr) (T := T_CWr) (N := 5) hx hb hts inw_CWr hown hK hP 0 rfl rfl 1 (by decide) (hts (.fieldLink R_CWr 15 "LikelyBits$CodedWriter" "contexts" "LLikelyBits$Contexts;") mw_77) (fun _ h9 => h9) rfl d_CWr_add_21 ?_
  refine lv_iload_n hx hb d_CWr_add_24 rfl (lv_at hl 2 rfl) ?_
  refine kqi (va_runV (As := [.int x]) (rest := [.int bit]) ⟨hx, hb, hml, hown, hts⟩ (c_Cxt_likelyBitOf l hl9 D k qc qf qg sf lf x ) (cwV 1 hts (gV mw_109 mw_31 mw_32 mw_23 mw_33) rfl rfl rfl (by decide +kernel) ⟨(Nat.le_of_ble_eq_true rfl), (Nat.le_of_ble_eq_true rfl)⟩) (kRecv (q := (R_Cxt, T_Cxt, 2)) (q0 := 4) (ci := 1) hK hP rfl rfl (kPreR (wc := [(qc, .inr (1, [.ref qf, .ref qg])), (qf, .inl (k.1, 19, .inl sf)), (qg, .inl (k.1, 19, .inl lf))]) hE hK hP hS [4, 5, 6] rfl)) rfl rfl hl.1 rfl (lv_room (Nat.le_of_ble_eq_true rfl)) d_CWr_add_25 ⟨(Nat.le_of_ble_eq_true rfl), (Nat.le_of_ble_eq_true rfl)⟩) hP hS (fun r4 H locs hw hP hS => ?_)
  replace hw := hw.symm
  subst hw
  refine lv_icmp_ne (tgt := 40) hx hb d_CWr_add_28 (by decide) (fun c5 => ?_) (fun c5 => ?_)
  · refine lv_aload_n hx hb d_CWr_add_40 rfl (lv_at hl 1 rfl) ?_
    refine lv_iload_n hx hb d_CWr_add_41 rfl (lv_at hl 2 rfl) ?_
    refine lv_iload_n hx hb d_CWr_add_42 rfl (lv_at hl 0 rfl) ?_
    refine kcv (wc := [(h0, .inr (4, [.ref qs, .ref qc, .int lo, .int x3, .int rm])), (qc, .inr (1, [.ref qf, .ref qg])), (qf, .inl (k.1, 19, .inl sf)), (qg, .inl (k.1, 19, .inl lf))]) (wr := [(qs, .inr (2, [.ref qr, .int a])), (qr, .inr (0, [.ref qa, .int u])), (qa, .inl (k.1, n, .inl f))]) (va_runV (As := [.int x, .int x2]) (rest := []) ⟨hx, hb, hml, hown, hts⟩ (c_CWr_addOther l hl9 D k h0 qc qf qg H.size qs lo x3 rm sf lf x x2 ) (cwV 2 hts (gV mw_110 mw_111 mw_112 mw_95 mw_113) rfl rfl rfl (by decide +kernel) ⟨(Nat.le_of_ble_eq_true rfl), (Nat.le_of_ble_eq_true rfl)⟩) (kRecv (q := (R_CWr, T_CWr, 5)) (q0 := 0) (ci := 4) hK hP rfl rfl (kPre (wc := [(h0, .inr (4, [.ref qs, .ref qc, .int lo, .int x3, .int rm])), (qc, .inr (1, [.ref qf, .ref qg])), (qf, .inl (k.1, 19, .inl sf)), (qg, .inl (k.1, 19, .inl lf))]) hE hK hP hD hS hA [0, 4, 5, 6] rfl (by decide))) rfl rfl hl.1 rfl (lv_room (Nat.le_of_ble_eq_true rfl)) d_CWr_add_43 ⟨(Nat.le_of_ble_eq_true rfl), (Nat.le_of_ble_eq_true rfl)⟩) hP hD hS hA [0, 4, 5, 6] [1, 2, 3] rfl rfl (by decide) (by decide) (fun zz uu H locs hw11 hz12 hP hD hS => ?_)
    obtain ⟨lo_6, sz_7, sf_8, lf_9⟩ := uu
    have hw11 : lo_6 = (aOt lo x3 sf lf x x2).1 ∧ sz_7 = (aOt lo x3 sf lf x x2).2.1 ∧ sf_8 = (aOt lo x3 sf lf x x2).2.2.1 ∧ lf_9 = (aOt lo x3 sf lf x x2).2.2.2 := hw11
    have hP : va_P D vwCl [(qs, .inr (2, [.ref qr, .int a])), (qr, .inr (0, [.ref qa, .int u])), (qa, .inl (k.1, n, .inl f)), (h0, .inr (4, [.ref qs, .ref qc, .int lo_6, .int sz_7, .int rm])), (qc, .inr (1, [.ref qf, .ref qg])), (qf, .inl (k.1, 19, .inl sf_8)), (qg, .inl (k.1, 19, .inl lf_9))] H := hP
    have hD : va_D A [(qs, .inr (2, [.ref qr, .int a])), (qr, .inr (0, [.ref qa, .int u])), (qa, .inl (k.1, n, .inl f)), (h0, .inr (4, [.ref qs, .ref qc, .int lo_6, .int sz_7, .int rm])), (qc, .inr (1, [.ref qf, .ref qg])), (qf, .inl (k.1, 19, .inl sf_8)), (qg, .inl (k.1, 19, .inl lf_9))] := hD
    refine lv_aload_n hx hb d_CWr_add_46 rfl (lv_at hl 1 rfl) ?_
    have hbn : (wad a lo sz rm sf lf n L x bit).2.2.2.2.2.1 = (enl 15 a lo_6 sz_7 rm n L).2.2.2.1 := (by obtain ⟨rfl, rfl, rfl, rfl⟩ := hw11; subst ex3; subst ex2; simp [wad, wa0, c5])
    refine kcv (wc := [(h0, .inr (4, [.ref qs, .ref qc, .int lo_6, .int sz_7, .int rm])), (qs, .inr (2, [.ref qr, .int a])), (qr, .inr (0, [.ref qa, .int u])), (qa, .inl (k.1, n, .inl f))]) (wr := [(qc, .inr (1, [.ref qf, .ref qg])), (qf, .inl (k.1, 19, .inl sf_8)), (qg, .inl (k.1, 19, .inl lf_9))]) (va_runV (As := []) (rest := []) ⟨hx, hb, hml, hown, hts⟩ (c_CWr_enlarge l hl9 D k h0 qs qr qa H.size qc lo_6 sz_7 rm a n f u L (by assumption)) (cwV 0 hts (gV mw_114 mw_115 mw_116 mw_95 mw_117) rfl rfl rfl (by decide +kernel) ⟨(Nat.le_of_ble_eq_true rfl), (Nat.le_of_ble_eq_true rfl)⟩) (kRecv (q := (R_CWr, T_CWr, 5)) (q0 := 3) (ci := 4) hK hP rfl rfl (kPre (wc := [(h0, .inr (4, [.ref qs, .ref qc, .int lo_6, .int sz_7, .int rm])), (qs, .inr (2, [.ref qr, .int a])), (qr, .inr (0, [.ref qa, .int u])), (qa, .inl (k.1, n, .inl f))]) hE hK hP hD hS hA [3, 0, 1, 2] rfl (by decide))) rfl rfl hl.1 rfl (lv_room (Nat.le_of_ble_eq_true rfl)) d_CWr_add_47 ⟨(by first | omega | (dsimp only; omega)), (by first | omega | (dsimp only; omega))⟩) hP hD hS hA [3, 0, 1, 2] [4, 5, 6] rfl rfl (by decide) (by decide) (fun zz uu H locs hw22 hz23 hP hD hS => ?_)
    obtain ⟨q_18, f_19, u_20⟩ := zz
    obtain ⟨lo_13, sz_14, rm_15, n_16, L_17⟩ := uu
    have hw22 : lo_13 = (enl 15 a lo_6 sz_7 rm n L).1 ∧ sz_14 = (enl 15 a lo_6 sz_7 rm n L).2.1 ∧ rm_15 = (enl 15 a lo_6 sz_7 rm n L).2.2.1 ∧ n_16 = (enl 15 a lo_6 sz_7 rm n L).2.2.2.1 ∧ L_17 = (enl 15 a lo_6 sz_7 rm n L).2.2.2.2 := hw22
    have hz23 : row_ok n_16 f_19 u_20 L_17 := hz23
    have hP : va_P D vwCl [(qc, .inr (1, [.ref qf, .ref qg])), (qf, .inl (k.1, 19, .inl sf_8)), (qg, .inl (k.1, 19, .inl lf_9)), (h0, .inr (4, [.ref qs, .ref qc, .int lo_13, .int sz_14, .int rm_15])), (qs, .inr (2, [.ref qr, .int a])), (qr, .inr (0, [.ref q_18, .int u_20])), (q_18, .inl (k.1, n_16, .inl f_19))] H := hP
    have hD : va_D A [(qc, .inr (1, [.ref qf, .ref qg])), (qf, .inl (k.1, 19, .inl sf_8)), (qg, .inl (k.1, 19, .inl lf_9)), (h0, .inr (4, [.ref qs, .ref qc, .int lo_13, .int sz_14, .int rm_15])), (qs, .inr (2, [.ref qr, .int a])), (qr, .inr (0, [.ref q_18, .int u_20])), (q_18, .inl (k.1, n_16, .inl f_19))] := hD
    exact krv (wo := wo_CWr_add k h0 qs qr qa qc qf qg lo sz rm sf lf a n f u L x bit) hx hb hr hlk hP hD hS (lo_13, sz_14, rm_15, sf_8, lf_9, n_16, L_17) (q_18, f_19, u_20) (by obtain ⟨rfl, rfl, rfl, rfl, rfl⟩ := hw22; obtain ⟨rfl, rfl, rfl, rfl⟩ := hw11; subst ex3; subst ex2; simp [po_CWr_add, wad, wa0, c5]) (by assumption) [3, 4, 5, 6, 0, 1, 2] rfl (by decide) (by first | omega | (dsimp only; omega)) (by first | omega | (dsimp only; omega)) d_CWr_add_50
  · refine lv_aload_n hx hb d_CWr_add_31 rfl (lv_at hl 1 rfl) ?_
    refine lv_iload_n hx hb d_CWr_add_32 rfl (lv_at hl 2 rfl) ?_
    refine lv_iload_n hx hb d_CWr_add_33 rfl (lv_at hl 0 rfl) ?_
    refine kcv (wc := [(h0, .inr (4, [.ref qs, .ref qc, .int lo, .int x3, .int rm])), (qc, .inr (1, [.ref qf, .ref qg])), (qf, .inl (k.1, 19, .inl sf)), (qg, .inl (k.1, 19, .inl lf))]) (wr := [(qs, .inr (2, [.ref qr, .int a])), (qr, .inr (0, [.ref qa, .int u])), (qa, .inl (k.1, n, .inl f))]) (va_runV (As := [.int x, .int x2]) (rest := []) ⟨hx, hb, hml, hown, hts⟩ (c_CWr_addLikely l hl9 D k h0 qc qf qg H.size qs lo x3 rm sf lf x x2 ) (cwV 2 hts (gV mw_118 mw_119 mw_120 mw_95 mw_121) rfl rfl rfl (by decide +kernel) ⟨(Nat.le_of_ble_eq_true rfl), (Nat.le_of_ble_eq_true rfl)⟩) (kRecv (q := (R_CWr, T_CWr, 5)) (q0 := 0) (ci := 4) hK hP rfl rfl (kPre (wc := [(h0, .inr (4, [.ref qs, .ref qc, .int lo, .int x3, .int rm])), (qc, .inr (1, [.ref qf, .ref qg])), (qf, .inl (k.1, 19, .inl sf)), (qg, .inl (k.1, 19, .inl lf))]) hE hK hP hD hS hA [0, 4, 5, 6] rfl (by decide))) rfl rfl hl.1 rfl (lv_room (Nat.le_of_ble_eq_true rfl)) d_CWr_add_34 ⟨(Nat.le_of_ble_eq_true rfl), (Nat.le_of_ble_eq_true rfl)⟩) hP hD hS hA [0, 4, 5, 6] [1, 2, 3] rfl rfl (by decide) (by decide) (fun zz uu H locs hw29 hz30 hP hD hS => ?_)
    obtain ⟨lo_24, sz_25, sf_26, lf_27⟩ := uu
    have hw29 : lo_24 = (aLk lo x3 sf lf x x2).1 ∧ sz_25 = (aLk lo x3 sf lf x x2).2.1 ∧ sf_26 = (aLk lo x3 sf lf x x2).2.2.1 ∧ lf_27 = (aLk lo x3 sf lf x x2).2.2.2 := hw29
    have hP : va_P D vwCl [(qs, .inr (2, [.ref qr, .int a])), (qr, .inr (0, [.ref qa, .int u])), (qa, .inl (k.1, n, .inl f)), (h0, .inr (4, [.ref qs, .ref qc, .int lo_24, .int sz_25, .int rm])), (qc, .inr (1, [.ref qf, .ref qg])), (qf, .inl (k.1, 19, .inl sf_26)), (qg, .inl (k.1, 19, .inl lf_27))] H := hP
    have hD : va_D A [(qs, .inr (2, [.ref qr, .int a])), (qr, .inr (0, [.ref qa, .int u])), (qa, .inl (k.1, n, .inl f)), (h0, .inr (4, [.ref qs, .ref qc, .int lo_24, .int sz_25, .int rm])), (qc, .inr (1, [.ref qf, .ref qg])), (qf, .inl (k.1, 19, .inl sf_26)), (qg, .inl (k.1, 19, .inl lf_27))] := hD
    refine lv_goto (tgt := 46) hx hb d_CWr_add_37 (by decide) ?_
    refine lv_aload_n hx hb d_CWr_add_46 rfl (lv_at hl 1 rfl) ?_
    have hbn : (wad a lo sz rm sf lf n L x bit).2.2.2.2.2.1 = (enl 15 a lo_24 sz_25 rm n L).2.2.2.1 := (by obtain ⟨rfl, rfl, rfl, rfl⟩ := hw29; subst ex3; subst ex2; simp [wad, wa0, c5])
    refine kcv (wc := [(h0, .inr (4, [.ref qs, .ref qc, .int lo_24, .int sz_25, .int rm])), (qs, .inr (2, [.ref qr, .int a])), (qr, .inr (0, [.ref qa, .int u])), (qa, .inl (k.1, n, .inl f))]) (wr := [(qc, .inr (1, [.ref qf, .ref qg])), (qf, .inl (k.1, 19, .inl sf_26)), (qg, .inl (k.1, 19, .inl lf_27))]) (va_runV (As := []) (rest := []) ⟨hx, hb, hml, hown, hts⟩ (c_CWr_enlarge l hl9 D k h0 qs qr qa H.size qc lo_24 sz_25 rm a n f u L (by assumption)) (cwV 0 hts (gV mw_114 mw_115 mw_116 mw_95 mw_117) rfl rfl rfl (by decide +kernel) ⟨(Nat.le_of_ble_eq_true rfl), (Nat.le_of_ble_eq_true rfl)⟩) (kRecv (q := (R_CWr, T_CWr, 5)) (q0 := 3) (ci := 4) hK hP rfl rfl (kPre (wc := [(h0, .inr (4, [.ref qs, .ref qc, .int lo_24, .int sz_25, .int rm])), (qs, .inr (2, [.ref qr, .int a])), (qr, .inr (0, [.ref qa, .int u])), (qa, .inl (k.1, n, .inl f))]) hE hK hP hD hS hA [3, 0, 1, 2] rfl (by decide))) rfl rfl hl.1 rfl (lv_room (Nat.le_of_ble_eq_true rfl)) d_CWr_add_47 ⟨(by first | omega | (dsimp only; omega)), (by first | omega | (dsimp only; omega))⟩) hP hD hS hA [3, 0, 1, 2] [4, 5, 6] rfl rfl (by decide) (by decide) (fun zz uu H locs hw40 hz41 hP hD hS => ?_)
    obtain ⟨q_36, f_37, u_38⟩ := zz
    obtain ⟨lo_31, sz_32, rm_33, n_34, L_35⟩ := uu
    have hw40 : lo_31 = (enl 15 a lo_24 sz_25 rm n L).1 ∧ sz_32 = (enl 15 a lo_24 sz_25 rm n L).2.1 ∧ rm_33 = (enl 15 a lo_24 sz_25 rm n L).2.2.1 ∧ n_34 = (enl 15 a lo_24 sz_25 rm n L).2.2.2.1 ∧ L_35 = (enl 15 a lo_24 sz_25 rm n L).2.2.2.2 := hw40
    have hz41 : row_ok n_34 f_37 u_38 L_35 := hz41
    have hP : va_P D vwCl [(qc, .inr (1, [.ref qf, .ref qg])), (qf, .inl (k.1, 19, .inl sf_26)), (qg, .inl (k.1, 19, .inl lf_27)), (h0, .inr (4, [.ref qs, .ref qc, .int lo_31, .int sz_32, .int rm_33])), (qs, .inr (2, [.ref qr, .int a])), (qr, .inr (0, [.ref q_36, .int u_38])), (q_36, .inl (k.1, n_34, .inl f_37))] H := hP
    have hD : va_D A [(qc, .inr (1, [.ref qf, .ref qg])), (qf, .inl (k.1, 19, .inl sf_26)), (qg, .inl (k.1, 19, .inl lf_27)), (h0, .inr (4, [.ref qs, .ref qc, .int lo_31, .int sz_32, .int rm_33])), (qs, .inr (2, [.ref qr, .int a])), (qr, .inr (0, [.ref q_36, .int u_38])), (q_36, .inl (k.1, n_34, .inl f_37))] := hD
    exact krv (wo := wo_CWr_add k h0 qs qr qa qc qf qg lo sz rm sf lf a n f u L x bit) hx hb hr hlk hP hD hS (lo_31, sz_32, rm_33, sf_26, lf_27, n_34, L_35) (q_36, f_37, u_38) (by obtain ⟨rfl, rfl, rfl, rfl, rfl⟩ := hw40; obtain ⟨rfl, rfl, rfl, rfl⟩ := hw29; subst ex3; subst ex2; simp [po_CWr_add, wad, wa0, c5]) (by assumption) [3, 4, 5, 6, 0, 1, 2] rfl (by decide) (by first | omega | (dsimp only; omega)) (by first | omega | (dsimp only; omega)) d_CWr_add_50

def wo_CWr_end0 (k : gK) (h0 qs qr qa : Nat) (qc : Nat) (lo : Int32) (sz : Int32) (rm : Int32) (a : Int32) (n : Nat) (f : Nat → Int32) (u : Int32) (L : List Int32) (zz : Nat × (Nat → Int32) × Int32) (uu : Int32 × Int32 × Nat × List Int32) : va_W := match zz, uu with
  | (q2, f2, u2), (lo2, rm2, n2, L2) => [(h0, .inr (4, [.ref qs, .ref qc, .int lo2, .int sz, .int rm2])), (qs, .inr (2, [.ref qr, .int a])), (qr, .inr (0, [.ref q2, .int u2])), (q2, .inl (k.1, n2, .inl f2))]
def ex_CWr_end0 (k : gK) (h0 qs qr qa : Nat) (qc : Nat) (lo : Int32) (sz : Int32) (rm : Int32) (a : Int32) (n : Nat) (f : Nat → Int32) (u : Int32) (L : List Int32) (zz : Nat × (Nat → Int32) × Int32) (uu : Int32 × Int32 × Nat × List Int32) : Prop := match zz, uu with
  | (q2, f2, u2), (lo2, rm2, n2, L2) => row_ok n2 f2 u2 L2
def po_CWr_end0 (k : gK) (h0 qs qr qa : Nat) (qc : Nat) (lo : Int32) (sz : Int32) (rm : Int32) (a : Int32) (n : Nat) (f : Nat → Int32) (u : Int32) (L : List Int32) (uu : Int32 × Int32 × Nat × List Int32) : Prop := match uu with
  | (lo2, rm2, n2, L2) => lo2 = (ew0 a lo sz rm n L).1 ∧ rm2 = (ew0 a lo sz rm n L).2.1 ∧ n2 = (ew0 a lo sz rm n L).2.2.1 ∧ L2 = (ew0 a lo sz rm n L).2.2.2
def qc_CWr_end0 (D : va_G) (k : gK) (h0 qs qr qa : Nat) (qc : Nat) (lo : Int32) (sz : Int32) (rm : Int32) (a : Int32) (n : Nat) (f : Nat → Int32) (u : Int32) (L : List Int32) (A : Nat → Prop) : Array Value → State → Outcome → State → Prop := va_Qv (po_CWr_end0 k h0 qs qr qa qc lo sz rm a n f u L) (fun uu t => ∃ zz, ex_CWr_end0 k h0 qs qr qa qc lo sz rm a n f u L zz uu ∧ GP D A (wo_CWr_end0 k h0 qs qr qa qc lo sz rm a n f u L zz uu) t) A
set_option maxHeartbeats 1000000 in
set_option maxRecDepth 100000 in
theorem c_CWr_end0 (l : Launch) (hl9 : l.stackTraces = false) (D : va_G) (k : gK) (h0 qs qr qa : Nat) (zsz : Nat) (qc : Nat) (lo : Int32) (sz : Int32) (rm : Int32) (a : Int32) (n : Nat) (f : Nat → Int32) (u : Int32) (L : List Int32) (hR : row_ok n f u L) : Met l y_CWr_endInWay0 (.code y_CWr_endInWay0 b_CWr_endInWay0 2 none :: AW) ({ frames := 6, cells := (ew0 a lo sz rm n L).2.2.1 - n, slots := 2 * ((ew0 a lo sz rm n L).2.2.1 - n), locals := 166 }) (va_Pc [.ref h0] (GG D k [(h0, .inr (4, [.ref qs, .ref qc, .int lo, .int sz, .int rm])), (qs, .inr (2, [.ref qr, .int a])), (qr, .inr (0, [.ref qa, .int u])), (qa, .inl (k.1, n, .inl f))] zsz)) (qc_CWr_end0 D k h0 qs qr qa qc lo sz rm a n f u L (va_A [(h0, .inr (4, [.ref qs, .ref qc, .int lo, .int sz, .int rm])), (qs, .inr (2, [.ref qr, .int a])), (qr, .inr (0, [.ref qa, .int u])), (qa, .inl (k.1, n, .inl f))] zsz)) ((ew0 a lo sz rm n L).2.2.1 - n) (2 * ((ew0 a lo sz rm n L).2.2.1 - n)) (va_A [(h0, .inr (4, [.ref qs, .ref qc, .int lo, .int sz, .int rm])), (qs, .inr (2, [.ref qr, .int a])), (qr, .inr (0, [.ref qa, .int u])), (qa, .inl (k.1, n, .inl f))] zsz) := by
  refine kMet (ws := [(h0, .inr (4, [.ref qs, .ref qc, .int lo, .int sz, .int rm])), (qs, .inr (2, [.ref qr, .int a])), (qr, .inr (0, [.ref qa, .int u])), (qa, .inl (k.1, n, .inl f))]) (Qc := qc_CWr_end0 D k h0 qs qr qa qc lo sz rm a n f u L) (by decide) (Nat.le_of_ble_eq_true rfl) (fun p e s m below meth c ls A H Cc hP hD hA hS hl => ?_)
  obtain ⟨hx, hb, hml, hr, hlk, hown, hts, hK, hE, hin⟩ := Cc
  have hl : lv_has ls 2 [(0, .ref h0)] := hl
  refine lv_aload_n hx hb d_CWr_endInWay0_0 rfl (lv_at hl 0 rfl) ?_
  refine va_get (D := D) (ci := 4) (v := .int lo) (C := R_CWr) (T := T_CWr) (N := 5) hx hb hts inw_CWr hown hK hP 0 rfl rfl 2 (by decide) (hts (.fieldLink R_CWr 19 "LikelyBits$CodedWriter" "low" "I") mw_78) (fun _ h9 => h9) rfl d_CWr_endInWay0_1 ?_
  refine lv_ldc (v := 65535) hx hb hown (hts (.constant R_CWr 72 65535) mw_122) d_CWr_endInWay0_4 ?_
  refine lv_ior hx hb d_CWr_endInWay0_6 ?_
  refine lv_topi (fun x1 ex1 => ?_)
  refine lv_istore_n (lv' := [(1, .int x1), (0, .ref h0)]) hx hb d_CWr_endInWay0_7 rfl hl (by decide) rfl (fun ls hl => ?_)
  refine lv_aload_n hx hb d_CWr_endInWay0_8 rfl (lv_at hl 1 rfl) ?_
  refine lv_iload_n hx hb d_CWr_endInWay0_9 rfl (lv_at hl 0 rfl) ?_
  refine lv_aload_n hx hb d_CWr_endInWay0_10 rfl (lv_at hl 1 rfl) ?_
  refine va_get (D := D) (ci := 4) (v := .int lo) (C := R_CWr) (T := T_CWr) (N := 5) hx hb hts inw_CWr hown hK hP 0 rfl rfl 2 (by decide) (hts (.fieldLink R_CWr 19 "LikelyBits$CodedWriter" "low" "I") mw_78) (fun _ h9 => h9) rfl d_CWr_endInWay0_11 ?_
  refine lv_aload_n hx hb d_CWr_endInWay0_14 rfl (lv_at hl 1 rfl) ?_
  refine va_get (D := D) (ci := 4) (v := .int sz) (C := R_CWr) (T := T_CWr) (N := 5) hx hb hts inw_CWr hown hK hP 0 rfl rfl 3 (by decide) (hts (.fieldLink R_CWr 24 "LikelyBits$CodedWriter" "size" "I") mw_80) (fun _ h9 => h9) rfl d_CWr_endInWay0_15 ?_
  refine lv_iadd hx hb d_CWr_endInWay0_18 ?_
  refine lv_icmp_ge (tgt := 26) hx hb d_CWr_endInWay0_19 (by decide) (fun c2 => ?_) (fun c2 => ?_)
  · refine lv_iload_n hx hb d_CWr_endInWay0_26 rfl (lv_at hl 0 rfl) ?_
    refine lv_ldc (v := 32768) hx hb hown (hts (.constant R_CWr 23 32768) mw_79) d_CWr_endInWay0_27 ?_
    refine lv_isub hx hb d_CWr_endInWay0_29 ?_
    refine lv_topi (fun x3 ex3 => ?_)
    refine va_put (D := D) (ci := 4) (v := .int x3) (ty := .int) (C := R_CWr) (T := T_CWr) (N := 5) hx hb hts inw_CWr ty_CWr tyok_CWr nm_CWr hown hK hP hD hS 0 rfl rfl 2 (by decide) (hts (.fieldLink R_CWr 19 "LikelyBits$CodedWriter" "low" "I") mw_78) (fun _ h9 => h9) rfl (by decide +kernel) rfl rfl (Nat.le_of_ble_eq_true rfl) d_CWr_endInWay0_30 (fun H locs hP hD hS => ?_)
    have hP : va_P D vwCl [(h0, .inr (4, [.ref qs, .ref qc, .int x3, .int sz, .int rm])), (qs, .inr (2, [.ref qr, .int a])), (qr, .inr (0, [.ref qa, .int u])), (qa, .inl (k.1, n, .inl f))] H := hP
    have hD : va_D A [(h0, .inr (4, [.ref qs, .ref qc, .int x3, .int sz, .int rm])), (qs, .inr (2, [.ref qr, .int a])), (qr, .inr (0, [.ref qa, .int u])), (qa, .inl (k.1, n, .inl f))] := hD
    refine lv_aload_n hx hb d_CWr_endInWay0_33 rfl (lv_at hl 1 rfl) ?_
    have hq1 : (ew0 a lo sz rm n L).2.2.1 = (fb a (fb a x3 rm n L).1 (fb a x3 rm n L).2.1 (fb a x3 rm n L).2.2.1 (fb a x3 rm n L).2.2.2).2.2.1 := (by subst ex3; subst ex1; simp [ew0, ew0l, c2])
    have hb1 := fb_le a x3 rm n L
    have hb2 : (fb a x3 rm n L).2.2.1 ≤ (ew0 a lo sz rm n L).2.2.1 := by rw [hq1]; exact fb_le _ _ _ _ _
    refine kcv (wc := [(h0, .inr (4, [.ref qs, .ref qc, .int x3, .int sz, .int rm])), (qs, .inr (2, [.ref qr, .int a])), (qr, .inr (0, [.ref qa, .int u])), (qa, .inl (k.1, n, .inl f))]) (wr := []) (va_runV (As := []) (rest := []) ⟨hx, hb, hml, hown, hts⟩ (c_CWr_fill l hl9 D k h0 qs qr qa H.size qc x3 sz rm a n f u L (by assumption)) (cwV 0 hts (gV mw_123 mw_124 mw_125 mw_95 mw_126) rfl rfl rfl (by decide +kernel) ⟨(Nat.le_of_ble_eq_true rfl), (Nat.le_of_ble_eq_true rfl)⟩) (kRecv (q := (R_CWr, T_CWr, 5)) (q0 := 0) (ci := 4) hK hP rfl rfl (kPre (wc := [(h0, .inr (4, [.ref qs, .ref qc, .int x3, .int sz, .int rm])), (qs, .inr (2, [.ref qr, .int a])), (qr, .inr (0, [.ref qa, .int u])), (qa, .inl (k.1, n, .inl f))]) hE hK hP hD hS hA [0, 1, 2, 3] rfl (by decide))) rfl rfl hl.1 rfl (lv_room (Nat.le_of_ble_eq_true rfl)) d_CWr_endInWay0_34 ⟨(by first | omega | (dsimp only; omega)), (by first | omega | (dsimp only; omega))⟩) hP hD hS hA [0, 1, 2, 3] [] rfl rfl (by decide) (by decide) (fun zz uu H locs hw12 hz13 hP hD hS => ?_)
    obtain ⟨q_8, f_9, u_10⟩ := zz
    obtain ⟨lo_4, rm_5, n_6, L_7⟩ := uu
    have hw12 : lo_4 = (fb a x3 rm n L).1 ∧ rm_5 = (fb a x3 rm n L).2.1 ∧ n_6 = (fb a x3 rm n L).2.2.1 ∧ L_7 = (fb a x3 rm n L).2.2.2 := hw12
    have hz13 : row_ok n_6 f_9 u_10 L_7 := hz13
    have hP : va_P D vwCl [(h0, .inr (4, [.ref qs, .ref qc, .int lo_4, .int sz, .int rm_5])), (qs, .inr (2, [.ref qr, .int a])), (qr, .inr (0, [.ref q_8, .int u_10])), (q_8, .inl (k.1, n_6, .inl f_9))] H := hP
    have hD : va_D A [(h0, .inr (4, [.ref qs, .ref qc, .int lo_4, .int sz, .int rm_5])), (qs, .inr (2, [.ref qr, .int a])), (qr, .inr (0, [.ref q_8, .int u_10])), (q_8, .inl (k.1, n_6, .inl f_9))] := hD
    refine lv_aload_n hx hb d_CWr_endInWay0_37 rfl (lv_at hl 1 rfl) ?_
    have hq2 : (ew0 a lo sz rm n L).2.2.1 = (fb a lo_4 rm_5 n_6 L_7).2.2.1 := (by rw [hq1, hw12.1, hw12.2.1, hw12.2.2.1, hw12.2.2.2])
    have hb3 := fb_le a lo_4 rm_5 n_6 L_7
    have hb4 := hw12.2.2.1
    refine kcv (wc := [(h0, .inr (4, [.ref qs, .ref qc, .int lo_4, .int sz, .int rm_5])), (qs, .inr (2, [.ref qr, .int a])), (qr, .inr (0, [.ref q_8, .int u_10])), (q_8, .inl (k.1, n_6, .inl f_9))]) (wr := []) (va_runV (As := []) (rest := []) ⟨hx, hb, hml, hown, hts⟩ (c_CWr_fill l hl9 D k h0 qs qr q_8 H.size qc lo_4 sz rm_5 a n_6 f_9 u_10 L_7 (by assumption)) (cwV 0 hts (gV mw_123 mw_124 mw_125 mw_95 mw_126) rfl rfl rfl (by decide +kernel) ⟨(Nat.le_of_ble_eq_true rfl), (Nat.le_of_ble_eq_true rfl)⟩) (kRecv (q := (R_CWr, T_CWr, 5)) (q0 := 0) (ci := 4) hK hP rfl rfl (kPre (wc := [(h0, .inr (4, [.ref qs, .ref qc, .int lo_4, .int sz, .int rm_5])), (qs, .inr (2, [.ref qr, .int a])), (qr, .inr (0, [.ref q_8, .int u_10])), (q_8, .inl (k.1, n_6, .inl f_9))]) hE hK hP hD hS hA [0, 1, 2, 3] rfl (by decide))) rfl rfl hl.1 rfl (lv_room (Nat.le_of_ble_eq_true rfl)) d_CWr_endInWay0_38 ⟨(by first | omega | (dsimp only; omega)), (by first | omega | (dsimp only; omega))⟩) hP hD hS hA [0, 1, 2, 3] [] rfl rfl (by decide) (by decide) (fun zz uu H locs hw22 hz23 hP hD hS => ?_)
    obtain ⟨q_18, f_19, u_20⟩ := zz
    obtain ⟨lo_14, rm_15, n_16, L_17⟩ := uu
    have hw22 : lo_14 = (fb a lo_4 rm_5 n_6 L_7).1 ∧ rm_15 = (fb a lo_4 rm_5 n_6 L_7).2.1 ∧ n_16 = (fb a lo_4 rm_5 n_6 L_7).2.2.1 ∧ L_17 = (fb a lo_4 rm_5 n_6 L_7).2.2.2 := hw22
    have hz23 : row_ok n_16 f_19 u_20 L_17 := hz23
    have hP : va_P D vwCl [(h0, .inr (4, [.ref qs, .ref qc, .int lo_14, .int sz, .int rm_15])), (qs, .inr (2, [.ref qr, .int a])), (qr, .inr (0, [.ref q_18, .int u_20])), (q_18, .inl (k.1, n_16, .inl f_19))] H := hP
    have hD : va_D A [(h0, .inr (4, [.ref qs, .ref qc, .int lo_14, .int sz, .int rm_15])), (qs, .inr (2, [.ref qr, .int a])), (qr, .inr (0, [.ref q_18, .int u_20])), (q_18, .inl (k.1, n_16, .inl f_19))] := hD
    exact krv (wo := wo_CWr_end0 k h0 qs qr qa qc lo sz rm a n f u L) hx hb hr hlk hP hD hS (lo_14, rm_15, n_16, L_17) (q_18, f_19, u_20) (by obtain ⟨rfl, rfl, rfl, rfl⟩ := hw22; obtain ⟨rfl, rfl, rfl, rfl⟩ := hw12; subst ex3; subst ex1; simp [po_CWr_end0, ew0, ew0l, c2]) (by assumption) [0, 1, 2, 3] rfl (by decide) (by first | omega | (dsimp only; omega)) (by first | omega | (dsimp only; omega)) d_CWr_endInWay0_41
  · refine lv_iload_n hx hb d_CWr_endInWay0_22 rfl (lv_at hl 0 rfl) ?_
    refine lv_goto (tgt := 30) hx hb d_CWr_endInWay0_23 (by decide) ?_
    refine va_put (D := D) (ci := 4) (v := .int x1) (ty := .int) (C := R_CWr) (T := T_CWr) (N := 5) hx hb hts inw_CWr ty_CWr tyok_CWr nm_CWr hown hK hP hD hS 0 rfl rfl 2 (by decide) (hts (.fieldLink R_CWr 19 "LikelyBits$CodedWriter" "low" "I") mw_78) (fun _ h9 => h9) rfl (by decide +kernel) rfl rfl (Nat.le_of_ble_eq_true rfl) d_CWr_endInWay0_30 (fun H locs hP hD hS => ?_)
    have hP : va_P D vwCl [(h0, .inr (4, [.ref qs, .ref qc, .int x1, .int sz, .int rm])), (qs, .inr (2, [.ref qr, .int a])), (qr, .inr (0, [.ref qa, .int u])), (qa, .inl (k.1, n, .inl f))] H := hP
    have hD : va_D A [(h0, .inr (4, [.ref qs, .ref qc, .int x1, .int sz, .int rm])), (qs, .inr (2, [.ref qr, .int a])), (qr, .inr (0, [.ref qa, .int u])), (qa, .inl (k.1, n, .inl f))] := hD
    refine lv_aload_n hx hb d_CWr_endInWay0_33 rfl (lv_at hl 1 rfl) ?_
    have hq1 : (ew0 a lo sz rm n L).2.2.1 = (fb a (fb a x1 rm n L).1 (fb a x1 rm n L).2.1 (fb a x1 rm n L).2.2.1 (fb a x1 rm n L).2.2.2).2.2.1 := (by subst ex1; simp [ew0, ew0l, c2])
    have hb1 := fb_le a x1 rm n L
    have hb2 : (fb a x1 rm n L).2.2.1 ≤ (ew0 a lo sz rm n L).2.2.1 := by rw [hq1]; exact fb_le _ _ _ _ _
    refine kcv (wc := [(h0, .inr (4, [.ref qs, .ref qc, .int x1, .int sz, .int rm])), (qs, .inr (2, [.ref qr, .int a])), (qr, .inr (0, [.ref qa, .int u])), (qa, .inl (k.1, n, .inl f))]) (wr := []) (va_runV (As := []) (rest := []) ⟨hx, hb, hml, hown, hts⟩ (c_CWr_fill l hl9 D k h0 qs qr qa H.size qc x1 sz rm a n f u L (by assumption)) (cwV 0 hts (gV mw_123 mw_124 mw_125 mw_95 mw_126) rfl rfl rfl (by decide +kernel) ⟨(Nat.le_of_ble_eq_true rfl), (Nat.le_of_ble_eq_true rfl)⟩) (kRecv (q := (R_CWr, T_CWr, 5)) (q0 := 0) (ci := 4) hK hP rfl rfl (kPre (wc := [(h0, .inr (4, [.ref qs, .ref qc, .int x1, .int sz, .int rm])), (qs, .inr (2, [.ref qr, .int a])), (qr, .inr (0, [.ref qa, .int u])), (qa, .inl (k.1, n, .inl f))]) hE hK hP hD hS hA [0, 1, 2, 3] rfl (by decide))) rfl rfl hl.1 rfl (lv_room (Nat.le_of_ble_eq_true rfl)) d_CWr_endInWay0_34 ⟨(by first | omega | (dsimp only; omega)), (by first | omega | (dsimp only; omega))⟩) hP hD hS hA [0, 1, 2, 3] [] rfl rfl (by decide) (by decide) (fun zz uu H locs hw32 hz33 hP hD hS => ?_)
    obtain ⟨q_28, f_29, u_30⟩ := zz
    obtain ⟨lo_24, rm_25, n_26, L_27⟩ := uu
    have hw32 : lo_24 = (fb a x1 rm n L).1 ∧ rm_25 = (fb a x1 rm n L).2.1 ∧ n_26 = (fb a x1 rm n L).2.2.1 ∧ L_27 = (fb a x1 rm n L).2.2.2 := hw32
    have hz33 : row_ok n_26 f_29 u_30 L_27 := hz33
    have hP : va_P D vwCl [(h0, .inr (4, [.ref qs, .ref qc, .int lo_24, .int sz, .int rm_25])), (qs, .inr (2, [.ref qr, .int a])), (qr, .inr (0, [.ref q_28, .int u_30])), (q_28, .inl (k.1, n_26, .inl f_29))] H := hP
    have hD : va_D A [(h0, .inr (4, [.ref qs, .ref qc, .int lo_24, .int sz, .int rm_25])), (qs, .inr (2, [.ref qr, .int a])), (qr, .inr (0, [.ref q_28, .int u_30])), (q_28, .inl (k.1, n_26, .inl f_29))] := hD
    refine lv_aload_n hx hb d_CWr_endInWay0_37 rfl (lv_at hl 1 rfl) ?_
    have hq2 : (ew0 a lo sz rm n L).2.2.1 = (fb a lo_24 rm_25 n_26 L_27).2.2.1 := (by rw [hq1, hw32.1, hw32.2.1, hw32.2.2.1, hw32.2.2.2])
    have hb3 := fb_le a lo_24 rm_25 n_26 L_27
    have hb4 := hw32.2.2.1
    refine kcv (wc := [(h0, .inr (4, [.ref qs, .ref qc, .int lo_24, .int sz, .int rm_25])), (qs, .inr (2, [.ref qr, .int a])), (qr, .inr (0, [.ref q_28, .int u_30])), (q_28, .inl (k.1, n_26, .inl f_29))]) (wr := []) (va_runV (As := []) (rest := []) ⟨hx, hb, hml, hown, hts⟩ (c_CWr_fill l hl9 D k h0 qs qr q_28 H.size qc lo_24 sz rm_25 a n_26 f_29 u_30 L_27 (by assumption)) (cwV 0 hts (gV mw_123 mw_124 mw_125 mw_95 mw_126) rfl rfl rfl (by decide +kernel) ⟨(Nat.le_of_ble_eq_true rfl), (Nat.le_of_ble_eq_true rfl)⟩) (kRecv (q := (R_CWr, T_CWr, 5)) (q0 := 0) (ci := 4) hK hP rfl rfl (kPre (wc := [(h0, .inr (4, [.ref qs, .ref qc, .int lo_24, .int sz, .int rm_25])), (qs, .inr (2, [.ref qr, .int a])), (qr, .inr (0, [.ref q_28, .int u_30])), (q_28, .inl (k.1, n_26, .inl f_29))]) hE hK hP hD hS hA [0, 1, 2, 3] rfl (by decide))) rfl rfl hl.1 rfl (lv_room (Nat.le_of_ble_eq_true rfl)) d_CWr_endInWay0_38 ⟨(by first | omega | (dsimp only; omega)), (by first | omega | (dsimp only; omega))⟩) hP hD hS hA [0, 1, 2, 3] [] rfl rfl (by decide) (by decide) (fun zz uu H locs hw42 hz43 hP hD hS => ?_)
    obtain ⟨q_38, f_39, u_40⟩ := zz
    obtain ⟨lo_34, rm_35, n_36, L_37⟩ := uu
    have hw42 : lo_34 = (fb a lo_24 rm_25 n_26 L_27).1 ∧ rm_35 = (fb a lo_24 rm_25 n_26 L_27).2.1 ∧ n_36 = (fb a lo_24 rm_25 n_26 L_27).2.2.1 ∧ L_37 = (fb a lo_24 rm_25 n_26 L_27).2.2.2 := hw42
    have hz43 : row_ok n_36 f_39 u_40 L_37 := hz43
    have hP : va_P D vwCl [(h0, .inr (4, [.ref qs, .ref qc, .int lo_34, .int sz, .int rm_35])), (qs, .inr (2, [.ref qr, .int a])), (qr, .inr (0, [.ref q_38, .int u_40])), (q_38, .inl (k.1, n_36, .inl f_39))] H := hP
    have hD : va_D A [(h0, .inr (4, [.ref qs, .ref qc, .int lo_34, .int sz, .int rm_35])), (qs, .inr (2, [.ref qr, .int a])), (qr, .inr (0, [.ref q_38, .int u_40])), (q_38, .inl (k.1, n_36, .inl f_39))] := hD
    exact krv (wo := wo_CWr_end0 k h0 qs qr qa qc lo sz rm a n f u L) hx hb hr hlk hP hD hS (lo_34, rm_35, n_36, L_37) (q_38, f_39, u_40) (by obtain ⟨rfl, rfl, rfl, rfl⟩ := hw42; obtain ⟨rfl, rfl, rfl, rfl⟩ := hw32; subst ex1; simp [po_CWr_end0, ew0, ew0l, c2]) (by assumption) [0, 1, 2, 3] rfl (by decide) (by first | omega | (dsimp only; omega)) (by first | omega | (dsimp only; omega)) d_CWr_endInWay0_41

def wo_CWr_end1 (k : gK) (h0 qs qr qa : Nat) (qc : Nat) (lo : Int32) (sz : Int32) (rm : Int32) (a : Int32) (n : Nat) (f : Nat → Int32) (u : Int32) (L : List Int32) (zz : Nat × (Nat → Int32) × Int32) (uu : Int32 × Int32 × Nat × List Int32) : va_W := match zz, uu with
  | (q2, f2, u2), (lo2, rm2, n2, L2) => [(h0, .inr (4, [.ref qs, .ref qc, .int lo2, .int sz, .int rm2])), (qs, .inr (2, [.ref qr, .int a])), (qr, .inr (0, [.ref q2, .int u2])), (q2, .inl (k.1, n2, .inl f2))]
def ex_CWr_end1 (k : gK) (h0 qs qr qa : Nat) (qc : Nat) (lo : Int32) (sz : Int32) (rm : Int32) (a : Int32) (n : Nat) (f : Nat → Int32) (u : Int32) (L : List Int32) (zz : Nat × (Nat → Int32) × Int32) (uu : Int32 × Int32 × Nat × List Int32) : Prop := match zz, uu with
  | (q2, f2, u2), (lo2, rm2, n2, L2) => row_ok n2 f2 u2 L2
def po_CWr_end1 (k : gK) (h0 qs qr qa : Nat) (qc : Nat) (lo : Int32) (sz : Int32) (rm : Int32) (a : Int32) (n : Nat) (f : Nat → Int32) (u : Int32) (L : List Int32) (uu : Int32 × Int32 × Nat × List Int32) : Prop := match uu with
  | (lo2, rm2, n2, L2) => lo2 = (ew1 12 a (12 - rm) lo rm n L).1 ∧ rm2 = (ew1 12 a (12 - rm) lo rm n L).2.1 ∧ n2 = (ew1 12 a (12 - rm) lo rm n L).2.2.1 ∧ L2 = (ew1 12 a (12 - rm) lo rm n L).2.2.2
def qc_CWr_end1 (D : va_G) (k : gK) (h0 qs qr qa : Nat) (qc : Nat) (lo : Int32) (sz : Int32) (rm : Int32) (a : Int32) (n : Nat) (f : Nat → Int32) (u : Int32) (L : List Int32) (A : Nat → Prop) : Array Value → State → Outcome → State → Prop := va_Qv (po_CWr_end1 k h0 qs qr qa qc lo sz rm a n f u L) (fun uu t => ∃ zz, ex_CWr_end1 k h0 qs qr qa qc lo sz rm a n f u L zz uu ∧ GP D A (wo_CWr_end1 k h0 qs qr qa qc lo sz rm a n f u L zz uu) t) A
set_option maxHeartbeats 1000000 in
set_option maxRecDepth 100000 in
theorem lp_CWr_end1_10 (l : Launch) (hl9 : l.stackTraces = false) (D : va_G) (k : gK) (h0 qs qr qa : Nat) (qc : Nat) (lo : Int32) (sz : Int32) (rm : Int32) (a : Int32) (n : Nat) (f : Nat → Int32) (u : Int32) (L : List Int32) {p : Program} {e : Env} {s : State} {m : MethodId} {below : List Frame} {meth : Method} {c : Code} {A : Nat → Prop} (Cc : Cx p s m ([.ref h0] : List Value).toArray meth c b_CWr_endInWay1 3 none y_CWr_endInWay1.cls y_CWr_endInWay1.name D k A) (hA : ∀ q : Nat, s.heap.size ≤ q → A q) :
    ∀ (t : Nat) (y1 : Int32) (i1 : Int32) (lo1 : Int32) (rm1 : Int32) (qa1 : Nat) (n1 : Nat) (f1 : Nat → Int32) (u1 : Int32) (L1 : List Int32), row_ok n1 f1 u1 L1 → ew1 12 a (12 - rm) lo rm n L = ew1 t a y1 lo1 rm1 n1 L1 → i1 = nI (12 - t) → t ≤ 12 → ∀ (H : Heap) (locs : List Loc) (cells slots : Nat), cells ≤ n1 - n ∧ slots ≤ 2 * (n1 - n) ∧ n ≤ n1 → va_P D vwCl [(h0, .inr (4, [.ref qs, .ref qc, .int lo1, .int sz, .int rm1])), (qs, .inr (2, [.ref qr, .int a])), (qr, .inr (0, [.ref qa1, .int u1])), (qa1, .inl (k.1, n1, .inl f1))] H → va_D A [(h0, .inr (4, [.ref qs, .ref qc, .int lo1, .int sz, .int rm1])), (qs, .inr (2, [.ref qr, .int a])), (qr, .inr (0, [.ref qa1, .int u1])), (qa1, .inl (k.1, n1, .inl f1))] → va_S A s.heap H locs → ∀ ls : Array Slot, lv_has ls 3 [(2, .int i1), (1, .int y1), (0, .ref h0)] → W p l e ({ frames := 6, cells := (ew1 12 a (12 - rm) lo rm n L).2.2.1 - n, slots := 2 * ((ew1 12 a (12 - rm) lo rm n L).2.2.1 - n), locals := 166 }) s m ([.ref h0] : List Value).toArray below meth c H locs cells slots (MQ below (qc_CWr_end1 D k h0 qs qr qa qc lo sz rm a n f u L A) ([.ref h0] : List Value).toArray s ((ew1 12 a (12 - rm) lo rm n L).2.2.1 - n) (2 * ((ew1 12 a (12 - rm) lo rm n L).2.2.1 - n)) A) (F0 m 10 ls []) := by
  have Cc9 := Cc
  obtain ⟨hx, hb, hml, hr, hlk, hown, hts, hK, hE, hin⟩ := Cc
  intro t
  induction t with
  | zero =>
    intro y1 i1 lo1 rm1 qa1 n1 f1 u1 L1 hR1 hF hi ht H locs cells slots hrm hP hD hS ls hl
    refine lv_iload_n hx hb d_CWr_endInWay1_10 rfl (lv_at hl 0 rfl) ?_
    refine lv_bipush (v := 12) hx hb d_CWr_endInWay1_11 (by decide) ?_
    refine lv_icmp_ge (tgt := 37) hx hb d_CWr_endInWay1_13 (by decide) (fun c1 => ?_) (fun c1 => ?_)
    · exact krv (wo := wo_CWr_end1 k h0 qs qr qa qc lo sz rm a n f u L) hx hb hr hlk hP hD hS (lo1, rm1, n1, L1) (qa1, f1, u1) (by simp only [po_CWr_end1]; rw [hF]; simp [ew1]) hR1 [0, 1, 2, 3] rfl (by decide) (by rw [hF]; simp only [ew1]; omega) (by rw [hF]; simp only [ew1]; omega) d_CWr_endInWay1_37
    · exact absurd (by rw [hi]; decide) c1
  | succ t ih =>
    intro y1 i1 lo1 rm1 qa1 n1 f1 u1 L1 hR1 hF hi ht H locs cells slots hrm hP hD hS ls hl
    refine lv_iload_n hx hb d_CWr_endInWay1_10 rfl (lv_at hl 0 rfl) ?_
    refine lv_bipush (v := 12) hx hb d_CWr_endInWay1_11 (by decide) ?_
    refine lv_icmp_ge (tgt := 37) hx hb d_CWr_endInWay1_13 (by decide) (fun c2 => ?_) (fun c2 => ?_)
    · exact absurd (by rw [hi] at c2; exact c2) (i_12 (by omega))
    · refine lv_iload_n hx hb d_CWr_endInWay1_16 rfl (lv_at hl 1 rfl) ?_
      refine lv_if_le (tgt := 37) hx hb d_CWr_endInWay1_17 (by decide) (fun c3 => ?_) (fun c3 => ?_)
      · exact krv (wo := wo_CWr_end1 k h0 qs qr qa qc lo sz rm a n f u L) hx hb hr hlk hP hD hS (lo1, rm1, n1, L1) (qa1, f1, u1) (by simp only [po_CWr_end1]; rw [hF, ew1, if_pos c3]; simp) hR1 [0, 1, 2, 3] rfl (by decide) (by rw [hF, ew1, if_pos c3]; dsimp only; omega) (by rw [hF, ew1, if_pos c3]; dsimp only; omega) d_CWr_endInWay1_37
      · refine lv_aload_n hx hb d_CWr_endInWay1_20 rfl (lv_at hl 2 rfl) ?_
        have hb1 := fb_le a lo1 rm1 n1 L1
        have hb2 : (fb a lo1 rm1 n1 L1).2.2.1 ≤ (ew1 12 a (12 - rm) lo rm n L).2.2.1 := by rw [hF, ew1, if_neg c3]; exact ew1_le _ _ _ _ _ _ _
        refine kcv (wc := [(h0, .inr (4, [.ref qs, .ref qc, .int lo1, .int sz, .int rm1])), (qs, .inr (2, [.ref qr, .int a])), (qr, .inr (0, [.ref qa1, .int u1])), (qa1, .inl (k.1, n1, .inl f1))]) (wr := []) (va_runV (As := []) (rest := []) ⟨hx, hb, hml, hown, hts⟩ (c_CWr_fill l hl9 D k h0 qs qr qa1 H.size qc lo1 sz rm1 a n1 f1 u1 L1 (by assumption)) (cwV 0 hts (gV mw_123 mw_124 mw_125 mw_95 mw_126) rfl rfl rfl (by decide +kernel) ⟨(Nat.le_of_ble_eq_true rfl), (Nat.le_of_ble_eq_true rfl)⟩) (kRecv (q := (R_CWr, T_CWr, 5)) (q0 := 0) (ci := 4) hK hP rfl rfl (kPre (wc := [(h0, .inr (4, [.ref qs, .ref qc, .int lo1, .int sz, .int rm1])), (qs, .inr (2, [.ref qr, .int a])), (qr, .inr (0, [.ref qa1, .int u1])), (qa1, .inl (k.1, n1, .inl f1))]) hE hK hP hD hS hA [0, 1, 2, 3] rfl (by decide))) rfl rfl hl.1 rfl (lv_room (Nat.le_of_ble_eq_true rfl)) d_CWr_endInWay1_21 ⟨(by first | omega | (dsimp only; omega)), (by first | omega | (dsimp only; omega))⟩) hP hD hS hA [0, 1, 2, 3] [] rfl rfl (by decide) (by decide) (fun zz uu H locs hw12 hz13 hP hD hS => ?_)
        obtain ⟨q_8, f_9, u_10⟩ := zz
        obtain ⟨lo_4, rm_5, n_6, L_7⟩ := uu
        have hw12 : lo_4 = (fb a lo1 rm1 n1 L1).1 ∧ rm_5 = (fb a lo1 rm1 n1 L1).2.1 ∧ n_6 = (fb a lo1 rm1 n1 L1).2.2.1 ∧ L_7 = (fb a lo1 rm1 n1 L1).2.2.2 := hw12
        have hz13 : row_ok n_6 f_9 u_10 L_7 := hz13
        have hP : va_P D vwCl [(h0, .inr (4, [.ref qs, .ref qc, .int lo_4, .int sz, .int rm_5])), (qs, .inr (2, [.ref qr, .int a])), (qr, .inr (0, [.ref q_8, .int u_10])), (q_8, .inl (k.1, n_6, .inl f_9))] H := hP
        have hD : va_D A [(h0, .inr (4, [.ref qs, .ref qc, .int lo_4, .int sz, .int rm_5])), (qs, .inr (2, [.ref qr, .int a])), (qr, .inr (0, [.ref q_8, .int u_10])), (q_8, .inl (k.1, n_6, .inl f_9))] := hD
        refine lv_iload_n hx hb d_CWr_endInWay1_24 rfl (lv_at hl 1 rfl) ?_
        refine lv_aload_n hx hb d_CWr_endInWay1_25 rfl (lv_at hl 2 rfl) ?_
        refine va_get (D := D) (ci := 4) (v := .int rm_5) (C := R_CWr) (T := T_CWr) (N := 5) hx hb hts inw_CWr hown hK hP 0 rfl rfl 4 (by decide) (hts (.fieldLink R_CWr 27 "LikelyBits$CodedWriter" "room" "I") mw_81) (fun _ h9 => h9) rfl d_CWr_endInWay1_26 ?_
        refine lv_isub hx hb d_CWr_endInWay1_29 ?_
        refine lv_topi (fun x14 ex14 => ?_)
        refine lv_istore_n (lv' := [(1, .int x14), (2, .int i1), (0, .ref h0)]) hx hb d_CWr_endInWay1_30 rfl hl (by decide) rfl (fun ls hl => ?_)
        obtain ⟨x15, ex15⟩ : ∃ y : Int32, y = i1 + 1 := ⟨_, rfl⟩
        refine lv_iinc (v := x15) (lv' := [(2, .int x15), (1, .int x14), (0, .ref h0)]) hx hb d_CWr_endInWay1_31 hl (k := 1) rfl (by rw [ex15]; rfl) (by decide) rfl (fun ls hl => ?_)
        refine lv_goto (tgt := 10) hx hb d_CWr_endInWay1_34 (by decide) ?_
        exact ih x14 x15 lo_4 rm_5 q_8 n_6 f_9 u_10 L_7 (by assumption) (by subst ex15; subst ex14; obtain ⟨rfl, rfl, rfl, rfl⟩ := hw12; rw [hF, ew1, if_neg c3]) (by rw [ex15, hi, show 12 - t = (12 - (t + 1)) + 1 by omega]; exact nI_1 _) (by omega) H _ _ _ (by exact ⟨by omega, by omega, by omega⟩) (ka_P hP (is := [0, 1, 2, 3]) rfl) (hD.sub [0, 1, 2, 3] (by decide) rfl) hS ls (lv_sub hl [0, 1, 2] rfl)
set_option maxHeartbeats 1000000 in
set_option maxRecDepth 100000 in
theorem c_CWr_end1 (l : Launch) (hl9 : l.stackTraces = false) (D : va_G) (k : gK) (h0 qs qr qa : Nat) (zsz : Nat) (qc : Nat) (lo : Int32) (sz : Int32) (rm : Int32) (a : Int32) (n : Nat) (f : Nat → Int32) (u : Int32) (L : List Int32) (hR : row_ok n f u L) : Met l y_CWr_endInWay1 (.code y_CWr_endInWay1 b_CWr_endInWay1 3 none :: AW) ({ frames := 6, cells := (ew1 12 a (12 - rm) lo rm n L).2.2.1 - n, slots := 2 * ((ew1 12 a (12 - rm) lo rm n L).2.2.1 - n), locals := 166 }) (va_Pc [.ref h0] (GG D k [(h0, .inr (4, [.ref qs, .ref qc, .int lo, .int sz, .int rm])), (qs, .inr (2, [.ref qr, .int a])), (qr, .inr (0, [.ref qa, .int u])), (qa, .inl (k.1, n, .inl f))] zsz)) (qc_CWr_end1 D k h0 qs qr qa qc lo sz rm a n f u L (va_A [(h0, .inr (4, [.ref qs, .ref qc, .int lo, .int sz, .int rm])), (qs, .inr (2, [.ref qr, .int a])), (qr, .inr (0, [.ref qa, .int u])), (qa, .inl (k.1, n, .inl f))] zsz)) ((ew1 12 a (12 - rm) lo rm n L).2.2.1 - n) (2 * ((ew1 12 a (12 - rm) lo rm n L).2.2.1 - n)) (va_A [(h0, .inr (4, [.ref qs, .ref qc, .int lo, .int sz, .int rm])), (qs, .inr (2, [.ref qr, .int a])), (qr, .inr (0, [.ref qa, .int u])), (qa, .inl (k.1, n, .inl f))] zsz) := by
  refine kMet (ws := [(h0, .inr (4, [.ref qs, .ref qc, .int lo, .int sz, .int rm])), (qs, .inr (2, [.ref qr, .int a])), (qr, .inr (0, [.ref qa, .int u])), (qa, .inl (k.1, n, .inl f))]) (Qc := qc_CWr_end1 D k h0 qs qr qa qc lo sz rm a n f u L) (by decide) (Nat.le_of_ble_eq_true rfl) (fun p e s m below meth c ls A H Cc hP hD hA hS hl => ?_)
  have Cc9 := Cc
  obtain ⟨hx, hb, hml, hr, hlk, hown, hts, hK, hE, hin⟩ := Cc
  have hl : lv_has ls 3 [(0, .ref h0)] := hl
  refine lv_bipush (v := 12) hx hb d_CWr_endInWay1_0 (by decide) ?_
  refine lv_aload_n hx hb d_CWr_endInWay1_2 rfl (lv_at hl 0 rfl) ?_
  refine va_get (D := D) (ci := 4) (v := .int rm) (C := R_CWr) (T := T_CWr) (N := 5) hx hb hts inw_CWr hown hK hP 0 rfl rfl 4 (by decide) (hts (.fieldLink R_CWr 27 "LikelyBits$CodedWriter" "room" "I") mw_81) (fun _ h9 => h9) rfl d_CWr_endInWay1_3 ?_
  refine lv_isub hx hb d_CWr_endInWay1_6 ?_
  refine lv_topi (fun x1 ex1 => ?_)
  refine lv_istore_n (lv' := [(1, .int x1), (0, .ref h0)]) hx hb d_CWr_endInWay1_7 rfl hl (by decide) rfl (fun ls hl => ?_)
  refine lv_iconst (v := 0) hx hb d_CWr_endInWay1_8 (by decide) ?_
  refine lv_istore_n (lv' := [(2, .int 0), (1, .int x1), (0, .ref h0)]) hx hb d_CWr_endInWay1_9 rfl hl (by decide) rfl (fun ls hl => ?_)
  exact lp_CWr_end1_10 l hl9 D k h0 qs qr qa qc lo sz rm a n f u L Cc9 hA 12 x1 0 lo rm qa n f u L hR (by rw [ex1]) rfl (by decide) H _ _ _ ⟨Nat.zero_le _, Nat.zero_le _, Nat.le_refl _⟩ (ka_P hP (is := [0, 1, 2, 3]) rfl) (hD.sub [0, 1, 2, 3] (by decide) rfl) hS ls (lv_sub hl [0, 1, 2] rfl)
end
section
set_option maxRecDepth 20000 in
theorem mw_127 : (Cond.methodLink R_RWr 3 objectInit) ∈ AW := inAW (List.mem_append_right _ (show _ ∈ tables_1_1 ++ (tables_1_2 ++ (tables_1_3 ++ tables_1_4)) from (List.mem_append_left _ (List.mem_of_getElem? (i := 99) rfl)))) rfl
set_option maxRecDepth 20000 in
theorem mw_128 : (Cond.fieldLink R_RWr 9 "LikelyBits$RawWriter" "segment" "LLikelyBits$Segment;") ∈ AW := inAW (List.mem_append_right _ (show _ ∈ tables_1_1 ++ (tables_1_2 ++ (tables_1_3 ++ tables_1_4)) from (List.mem_append_left _ (List.mem_of_getElem? (i := 100) rfl)))) rfl
set_option maxRecDepth 20000 in
theorem mw_129 : (Cond.fieldLink R_RWr 15 "LikelyBits$RawWriter" "room" "I") ∈ AW := inAW (List.mem_append_right _ (show _ ∈ tables_1_1 ++ (tables_1_2 ++ (tables_1_3 ++ tables_1_4)) from (List.mem_append_left _ (List.mem_of_getElem? (i := 101) rfl)))) rfl
set_option maxRecDepth 20000 in
theorem mw_130 : (Cond.methodLink R_RWr 19 y_Seg_last) ∈ AW := inAW (List.mem_append_right _ (show _ ∈ tables_1_1 ++ (tables_1_2 ++ (tables_1_3 ++ tables_1_4)) from (List.mem_append_right _ (List.mem_append_left _ (List.mem_of_getElem? (i := 231) rfl))))) rfl
set_option maxRecDepth 20000 in
theorem mw_131 : (Cond.methodLink R_RWr 29 y_Seg_changeLast) ∈ AW := inAW (List.mem_append_right _ (show _ ∈ tables_1_1 ++ (tables_1_2 ++ (tables_1_3 ++ tables_1_4)) from (List.mem_append_right _ (List.mem_append_right _ (List.mem_append_left _ (List.mem_of_getElem? (i := 5) rfl)))))) rfl
set_option maxRecDepth 20000 in
theorem mw_132 : (Cond.methodLink R_RWr 25 y_Seg_append) ∈ AW := inAW (List.mem_append_right _ (show _ ∈ tables_1_1 ++ (tables_1_2 ++ (tables_1_3 ++ tables_1_4)) from (List.mem_append_right _ (List.mem_append_right _ (List.mem_append_left _ (List.mem_of_getElem? (i := 0) rfl)))))) rfl
set_option maxRecDepth 20000 in
theorem mw_133 : (Cond.methodLink R_RWr 32 y_RWr_add) ∈ AW := inAW (List.mem_append_right _ (show _ ∈ tables_1_1 ++ (tables_1_2 ++ (tables_1_3 ++ tables_1_4)) from (List.mem_append_right _ (List.mem_append_right _ (List.mem_append_left _ (List.mem_of_getElem? (i := 82) rfl)))))) rfl
set_option maxRecDepth 20000 in
theorem mw_134 : (Cond.instanceMethod y_RWr_add) ∈ AW := inAW (List.mem_append_right _ (show _ ∈ tables_1_1 ++ (tables_1_2 ++ (tables_1_3 ++ tables_1_4)) from (List.mem_append_right _ (List.mem_append_left _ (List.mem_of_getElem? (i := 228) rfl))))) rfl
set_option maxRecDepth 20000 in
theorem mw_135 : (Cond.selects R_RWr y_RWr_add y_RWr_add) ∈ AW := inAW (List.mem_append_right _ (show _ ∈ tables_1_1 ++ (tables_1_2 ++ (tables_1_3 ++ tables_1_4)) from (List.mem_append_right _ (List.mem_append_left _ (List.mem_of_getElem? (i := 229) rfl))))) rfl
set_option maxRecDepth 20000 in
theorem mw_136 : (Cond.initialized R_RWr) ∈ AW := inAW (List.mem_append_right _ (show _ ∈ tables_1_1 ++ (tables_1_2 ++ (tables_1_3 ++ tables_1_4)) from (List.mem_append_left _ (List.mem_of_getElem? (i := 6) rfl)))) rfl
set_option maxRecDepth 20000 in
theorem mw_137 : (Cond.code y_RWr_add b_RWr_add 2 none) ∈ AW := inAW (List.mem_append_right _ (show _ ∈ tables_1_1 ++ (tables_1_2 ++ (tables_1_3 ++ tables_1_4)) from (List.mem_append_right _ (List.mem_append_left _ (List.mem_of_getElem? (i := 230) rfl))))) rfl
def wo_RWr_init (k : gK) (h0 : Nat) (qs : Nat) (zz : Unit) (uu : Unit) : va_W := match zz, uu with
  | _, _ => [(h0, .inr (6, [.ref qs, .int 0]))]
def ex_RWr_init (k : gK) (h0 : Nat) (qs : Nat) (zz : Unit) (uu : Unit) : Prop := match zz, uu with
  | _, _ => True
def po_RWr_init (k : gK) (h0 : Nat) (qs : Nat) (uu : Unit) : Prop := match uu with
  | _ => True
def qc_RWr_init (D : va_G) (k : gK) (h0 : Nat) (qs : Nat) (A : Nat → Prop) : Array Value → State → Outcome → State → Prop := va_Qv (po_RWr_init k h0 qs) (fun uu t => ∃ zz, ex_RWr_init k h0 qs zz uu ∧ GP D A (wo_RWr_init k h0 qs zz uu) t) A
set_option maxHeartbeats 1000000 in
set_option maxRecDepth 100000 in
theorem c_RWr_init (l : Launch) (hl9 : l.stackTraces = false) (D : va_G) (k : gK) (h0 : Nat) (zsz : Nat) (qs : Nat) : Met l y_RWr_init (.code y_RWr_init b_RWr_init 2 none :: AW) ({ frames := 1, cells := 0, slots := 0, locals := 22 }) (va_Pc [.ref h0, .ref qs] (GG D k [(h0, .inr (6, [.null, .int 0]))] zsz)) (qc_RWr_init D k h0 qs (va_A [(h0, .inr (6, [.null, .int 0]))] zsz)) 0 0 (va_A [(h0, .inr (6, [.null, .int 0]))] zsz) := by
  refine kMet (ws := [(h0, .inr (6, [.null, .int 0]))]) (Qc := qc_RWr_init D k h0 qs) (by decide) (Nat.le_of_ble_eq_true rfl) (fun p e s m below meth c ls A H Cc hP hD hA hS hl => ?_)
  obtain ⟨hx, hb, hml, hr, hlk, hown, hts, hK, hE, hin⟩ := Cc
  have hl : lv_has ls 2 [(0, .ref h0), (1, .ref qs)] := hl
  refine lv_aload_n hx hb d_RWr_init_0 rfl (lv_at hl 0 rfl) ?_
  refine W.objInit hx hb hown (hts (.methodLink R_RWr 3 objectInit) mw_127) (hts (.instanceMethod objectInit) mw_3) (hts (.code objectInit ⟨#[0xb1]⟩ 1 none) mw_4) rfl (by rw [hml]; exact hl.1) rfl d_RWr_init_1 (Nat.le_of_ble_eq_true rfl) (Nat.le_of_ble_eq_true rfl) ?_
  refine W.eq (g2 := F0 m 4 ls []) rfl ?_
  refine lv_aload_n hx hb d_RWr_init_4 rfl (lv_at hl 0 rfl) ?_
  refine lv_aload_n hx hb d_RWr_init_5 rfl (lv_at hl 1 rfl) ?_
  refine va_putF (D := D) (ci := 6) (v := .ref qs) (ty := .object "LikelyBits$Segment") (C := R_RWr) (T := T_RWr) (N := 2) hx hb hts inw_RWr ty_RWr tyok_RWr nm_RWr hown hK hP hD hS 0 rfl rfl 0 (by decide) (hts (.fieldLink R_RWr 9 "LikelyBits$RawWriter" "segment" "LLikelyBits$Segment;") mw_128) (fun _ h9 => h9) rfl hin rfl (by decide +kernel) rfl rfl (Nat.le_of_ble_eq_true rfl) d_RWr_init_6 (fun H locs hP hD hS => ?_)
  have hP : va_P D vwCl [(h0, .inr (6, [.ref qs, .int 0]))] H := hP
  have hD : va_D A [(h0, .inr (6, [.ref qs, .int 0]))] := hD
  exact krv (wo := wo_RWr_init k h0 qs) hx hb hr hlk hP hD hS () () trivial trivial [0] rfl (by decide) (Nat.le_of_ble_eq_true rfl) (Nat.le_of_ble_eq_true rfl) d_RWr_init_9

def wo_RWr_begin (k : gK) (h0 : Nat) (qs : Nat) (rm : Int32) (zz : Unit) (uu : Unit) : va_W := match zz, uu with
  | _, _ => [(h0, .inr (6, [.ref qs, .int 0]))]
def ex_RWr_begin (k : gK) (h0 : Nat) (qs : Nat) (rm : Int32) (zz : Unit) (uu : Unit) : Prop := match zz, uu with
  | _, _ => True
def po_RWr_begin (k : gK) (h0 : Nat) (qs : Nat) (rm : Int32) (uu : Unit) : Prop := match uu with
  | _ => True
def qc_RWr_begin (D : va_G) (k : gK) (h0 : Nat) (qs : Nat) (rm : Int32) (A : Nat → Prop) : Array Value → State → Outcome → State → Prop := va_Qv (po_RWr_begin k h0 qs rm) (fun uu t => ∃ zz, ex_RWr_begin k h0 qs rm zz uu ∧ GP D A (wo_RWr_begin k h0 qs rm zz uu) t) A
set_option maxHeartbeats 1000000 in
set_option maxRecDepth 100000 in
theorem c_RWr_begin (l : Launch) (hl9 : l.stackTraces = false) (D : va_G) (k : gK) (h0 : Nat) (zsz : Nat) (qs : Nat) (rm : Int32) : Met l y_RWr_begin (.code y_RWr_begin b_RWr_begin 1 none :: AW) ({ frames := 0, cells := 0, slots := 0, locals := 0 }) (va_Pc [.ref h0] (GG D k [(h0, .inr (6, [.ref qs, .int rm]))] zsz)) (qc_RWr_begin D k h0 qs rm (va_A [(h0, .inr (6, [.ref qs, .int rm]))] zsz)) 0 0 (va_A [(h0, .inr (6, [.ref qs, .int rm]))] zsz) := by
  refine kMet (ws := [(h0, .inr (6, [.ref qs, .int rm]))]) (Qc := qc_RWr_begin D k h0 qs rm) (by decide) (Nat.le_of_ble_eq_true rfl) (fun p e s m below meth c ls A H Cc hP hD hA hS hl => ?_)
  obtain ⟨hx, hb, hml, hr, hlk, hown, hts, hK, hE, hin⟩ := Cc
  have hl : lv_has ls 1 [(0, .ref h0)] := hl
  refine lv_aload_n hx hb d_RWr_begin_0 rfl (lv_at hl 0 rfl) ?_
  refine lv_iconst (v := 0) hx hb d_RWr_begin_1 (by decide) ?_
  refine va_put (D := D) (ci := 6) (v := .int 0) (ty := .int) (C := R_RWr) (T := T_RWr) (N := 2) hx hb hts inw_RWr ty_RWr tyok_RWr nm_RWr hown hK hP hD hS 0 rfl rfl 1 (by decide) (hts (.fieldLink R_RWr 15 "LikelyBits$RawWriter" "room" "I") mw_129) (fun _ h9 => h9) rfl (by decide +kernel) rfl rfl (Nat.le_of_ble_eq_true rfl) d_RWr_begin_2 (fun H locs hP hD hS => ?_)
  have hP : va_P D vwCl [(h0, .inr (6, [.ref qs, .int 0]))] H := hP
  have hD : va_D A [(h0, .inr (6, [.ref qs, .int 0]))] := hD
  exact krv (wo := wo_RWr_begin k h0 qs rm) hx hb hr hlk hP hD hS () () trivial trivial [0] rfl (by decide) (Nat.le_of_ble_eq_true rfl) (Nat.le_of_ble_eq_true rfl) d_RWr_begin_5

def wo_RWr_add (k : gK) (h0 qs qr qa : Nat) (rm : Int32) (a : Int32) (n : Nat) (f : Nat → Int32) (u : Int32) (L : List Int32) (b : Int32) (zz : Nat × (Nat → Int32) × Int32) (uu : Int32 × Nat × List Int32) : va_W := match zz, uu with
  | (q2, f2, u2), (rm2, n2, L2) => [(h0, .inr (6, [.ref qs, .int rm2])), (qs, .inr (2, [.ref qr, .int a])), (qr, .inr (0, [.ref q2, .int u2])), (q2, .inl (k.1, n2, .inl f2))]
def ex_RWr_add (k : gK) (h0 qs qr qa : Nat) (rm : Int32) (a : Int32) (n : Nat) (f : Nat → Int32) (u : Int32) (L : List Int32) (b : Int32) (zz : Nat × (Nat → Int32) × Int32) (uu : Int32 × Nat × List Int32) : Prop := match zz, uu with
  | (q2, f2, u2), (rm2, n2, L2) => row_ok n2 f2 u2 L2
def po_RWr_add (k : gK) (h0 qs qr qa : Nat) (rm : Int32) (a : Int32) (n : Nat) (f : Nat → Int32) (u : Int32) (L : List Int32) (b : Int32) (uu : Int32 × Nat × List Int32) : Prop := match uu with
  | (rm2, n2, L2) => rm2 = (rad a rm n L b).1 ∧ n2 = (rad a rm n L b).2.1 ∧ L2 = (rad a rm n L b).2.2
def qc_RWr_add (D : va_G) (k : gK) (h0 qs qr qa : Nat) (rm : Int32) (a : Int32) (n : Nat) (f : Nat → Int32) (u : Int32) (L : List Int32) (b : Int32) (A : Nat → Prop) : Array Value → State → Outcome → State → Prop := va_Qv (po_RWr_add k h0 qs qr qa rm a n f u L b) (fun uu t => ∃ zz, ex_RWr_add k h0 qs qr qa rm a n f u L b zz uu ∧ GP D A (wo_RWr_add k h0 qs qr qa rm a n f u L b zz uu) t) A
set_option maxHeartbeats 1000000 in
set_option maxRecDepth 100000 in
theorem c_RWr_add (l : Launch) (hl9 : l.stackTraces = false) (D : va_G) (k : gK) (h0 qs qr qa : Nat) (zsz : Nat) (rm : Int32) (a : Int32) (n : Nat) (f : Nat → Int32) (u : Int32) (L : List Int32) (b : Int32) (hR : row_ok n f u L) : Met l y_RWr_add (.code y_RWr_add b_RWr_add 2 none :: AW) ({ frames := 4, cells := (rad a rm n L b).2.1 - n, slots := 2 * ((rad a rm n L b).2.1 - n), locals := 124 }) (va_Pc [.ref h0, .int b] (GG D k [(h0, .inr (6, [.ref qs, .int rm])), (qs, .inr (2, [.ref qr, .int a])), (qr, .inr (0, [.ref qa, .int u])), (qa, .inl (k.1, n, .inl f))] zsz)) (qc_RWr_add D k h0 qs qr qa rm a n f u L b (va_A [(h0, .inr (6, [.ref qs, .int rm])), (qs, .inr (2, [.ref qr, .int a])), (qr, .inr (0, [.ref qa, .int u])), (qa, .inl (k.1, n, .inl f))] zsz)) ((rad a rm n L b).2.1 - n) (2 * ((rad a rm n L b).2.1 - n)) (va_A [(h0, .inr (6, [.ref qs, .int rm])), (qs, .inr (2, [.ref qr, .int a])), (qr, .inr (0, [.ref qa, .int u])), (qa, .inl (k.1, n, .inl f))] zsz) := by
  refine kMet (ws := [(h0, .inr (6, [.ref qs, .int rm])), (qs, .inr (2, [.ref qr, .int a])), (qr, .inr (0, [.ref qa, .int u])), (qa, .inl (k.1, n, .inl f))]) (Qc := qc_RWr_add D k h0 qs qr qa rm a n f u L b) (by decide) (Nat.le_of_ble_eq_true rfl) (fun p e s m below meth c ls A H Cc hP hD hA hS hl => ?_)
  obtain ⟨hx, hb, hml, hr, hlk, hown, hts, hK, hE, hin⟩ := Cc
  have hl : lv_has ls 2 [(0, .ref h0), (1, .int b)] := hl
  refine lv_aload_n hx hb d_RWr_add_0 rfl (lv_at hl 0 rfl) ?_
  refine va_get (D := D) (ci := 6) (v := .int rm) (C := R_RWr) (T := T_RWr) (N := 2) hx hb hts inw_RWr hown hK hP 0 rfl rfl 1 (by decide) (hts (.fieldLink R_RWr 15 "LikelyBits$RawWriter" "room" "I") mw_129) (fun _ h9 => h9) rfl d_RWr_add_1 ?_
  refine lv_if_ne (tgt := 39) hx hb d_RWr_add_4 (by decide) (fun c1 => ?_) (fun c1 => ?_)
  · refine lv_aload_n hx hb d_RWr_add_39 rfl (lv_at hl 0 rfl) ?_
    refine lv_dup hx hb d_RWr_add_40 rfl ?_
    refine va_get (D := D) (ci := 6) (v := .int rm) (C := R_RWr) (T := T_RWr) (N := 2) hx hb hts inw_RWr hown hK hP 0 rfl rfl 1 (by decide) (hts (.fieldLink R_RWr 15 "LikelyBits$RawWriter" "room" "I") mw_129) (fun _ h9 => h9) rfl d_RWr_add_41 ?_
    refine lv_iconst (v := 1) hx hb d_RWr_add_44 (by decide) ?_
    refine lv_isub hx hb d_RWr_add_45 ?_
    refine lv_topi (fun x2 ex2 => ?_)
    refine va_put (D := D) (ci := 6) (v := .int x2) (ty := .int) (C := R_RWr) (T := T_RWr) (N := 2) hx hb hts inw_RWr ty_RWr tyok_RWr nm_RWr hown hK hP hD hS 0 rfl rfl 1 (by decide) (hts (.fieldLink R_RWr 15 "LikelyBits$RawWriter" "room" "I") mw_129) (fun _ h9 => h9) rfl (by decide +kernel) rfl rfl (Nat.le_of_ble_eq_true rfl) d_RWr_add_46 (fun H locs hP hD hS => ?_)
    have hP : va_P D vwCl [(h0, .inr (6, [.ref qs, .int x2])), (qs, .inr (2, [.ref qr, .int a])), (qr, .inr (0, [.ref qa, .int u])), (qa, .inl (k.1, n, .inl f))] H := hP
    have hD : va_D A [(h0, .inr (6, [.ref qs, .int x2])), (qs, .inr (2, [.ref qr, .int a])), (qr, .inr (0, [.ref qa, .int u])), (qa, .inl (k.1, n, .inl f))] := hD
    refine lv_aload_n hx hb d_RWr_add_49 rfl (lv_at hl 0 rfl) ?_
    refine va_get (D := D) (ci := 6) (v := .ref qs) (C := R_RWr) (T := T_RWr) (N := 2) hx hb hts inw_RWr hown hK hP 0 rfl rfl 0 (by decide) (hts (.fieldLink R_RWr 9 "LikelyBits$RawWriter" "segment" "LLikelyBits$Segment;") mw_128) (fun _ h9 => h9) rfl d_RWr_add_50 ?_
    refine lv_aload_n hx hb d_RWr_add_53 rfl (lv_at hl 0 rfl) ?_
    refine va_get (D := D) (ci := 6) (v := .ref qs) (C := R_RWr) (T := T_RWr) (N := 2) hx hb hts inw_RWr hown hK hP 0 rfl rfl 0 (by decide) (hts (.fieldLink R_RWr 9 "LikelyBits$RawWriter" "segment" "LLikelyBits$Segment;") mw_128) (fun _ h9 => h9) rfl d_RWr_add_54 ?_
    refine kqi (va_runV (As := []) (rest := [.ref qs]) ⟨hx, hb, hml, hown, hts⟩ (c_Seg_last l hl9 D k qs qr qa a n f u L (by assumption)) (cwV 0 hts (gV mw_130 mw_68 mw_69 mw_53 mw_70) rfl rfl rfl (by decide +kernel) ⟨(Nat.le_of_ble_eq_true rfl), (Nat.le_of_ble_eq_true rfl)⟩) (kRecv (q := (R_Seg, T_Seg, 2)) (q0 := 1) (ci := 2) hK hP rfl rfl (kPreR (wc := [(qs, .inr (2, [.ref qr, .int a])), (qr, .inr (0, [.ref qa, .int u])), (qa, .inl (k.1, n, .inl f))]) hE hK hP hS [1, 2, 3] rfl)) rfl rfl hl.1 rfl (lv_room (Nat.le_of_ble_eq_true rfl)) d_RWr_add_57 ⟨(Nat.le_of_ble_eq_true rfl), (Nat.le_of_ble_eq_true rfl)⟩) hP hS (fun r3 H locs hw hP hS => ?_)
    replace hw := hw.symm
    subst hw
    refine lv_iload_n hx hb d_RWr_add_60 rfl (lv_at hl 1 rfl) ?_
    refine lv_aload_n hx hb d_RWr_add_61 rfl (lv_at hl 0 rfl) ?_
    refine va_get (D := D) (ci := 6) (v := .int x2) (C := R_RWr) (T := T_RWr) (N := 2) hx hb hts inw_RWr hown hK hP 0 rfl rfl 1 (by decide) (hts (.fieldLink R_RWr 15 "LikelyBits$RawWriter" "room" "I") mw_129) (fun _ h9 => h9) rfl d_RWr_add_62 ?_
    refine lv_ishl hx hb d_RWr_add_65 ?_
    refine lv_ior hx hb d_RWr_add_66 ?_
    refine kcv (wc := [(qs, .inr (2, [.ref qr, .int a])), (qr, .inr (0, [.ref qa, .int u])), (qa, .inl (k.1, n, .inl f))]) (wr := [(h0, .inr (6, [.ref qs, .int x2]))]) (va_runV (As := [.int ((sgl L a) ||| (b <<< (x2 &&& 31)))]) (rest := []) ⟨hx, hb, hml, hown, hts⟩ (c_Seg_changeLast l hl9 D k qs qr qa H.size a n f u L ((sgl L a) ||| (b <<< (x2 &&& 31))) (by assumption)) (cwV 1 hts (gV mw_131 mw_89 mw_90 mw_53 mw_91) rfl rfl rfl (by decide +kernel) ⟨(Nat.le_of_ble_eq_true rfl), (Nat.le_of_ble_eq_true rfl)⟩) (kRecv (q := (R_Seg, T_Seg, 2)) (q0 := 1) (ci := 2) hK hP rfl rfl (kPre (wc := [(qs, .inr (2, [.ref qr, .int a])), (qr, .inr (0, [.ref qa, .int u])), (qa, .inl (k.1, n, .inl f))]) hE hK hP hD hS hA [1, 2, 3] rfl (by decide))) rfl rfl hl.1 rfl (lv_room (Nat.le_of_ble_eq_true rfl)) d_RWr_add_67 ⟨(Nat.le_of_ble_eq_true rfl), (Nat.le_of_ble_eq_true rfl)⟩) hP hD hS hA [1, 2, 3] [0] rfl rfl (by decide) (by decide) (fun zz uu H locs hw7 hz8 hP hD hS => ?_)
    obtain ⟨f_5, rfl⟩ : ∃ y, y = zz := ⟨_, rfl⟩
    obtain ⟨L_4, rfl⟩ : ∃ y, y = uu := ⟨_, rfl⟩
    have hw7 : L_4 = sgc L a ((sgl L a) ||| (b <<< (x2 &&& 31))) := hw7
    have hz8 : row_ok n f_5 u L_4 := hz8
    have hP : va_P D vwCl [(h0, .inr (6, [.ref qs, .int x2])), (qs, .inr (2, [.ref qr, .int a])), (qr, .inr (0, [.ref qa, .int u])), (qa, .inl (k.1, n, .inl f_5))] H := hP
    have hD : va_D A [(h0, .inr (6, [.ref qs, .int x2])), (qs, .inr (2, [.ref qr, .int a])), (qr, .inr (0, [.ref qa, .int u])), (qa, .inl (k.1, n, .inl f_5))] := hD
    exact krv (wo := wo_RWr_add k h0 qs qr qa rm a n f u L b) hx hb hr hlk hP hD hS (x2, n, L_4) (qa, f_5, u) (by obtain rfl := hw7; subst ex2; simp [po_RWr_add, rad, ra2, c1]) (by assumption) [0, 1, 2, 3] rfl (by decide) (by first | omega | (dsimp only; omega)) (by first | omega | (dsimp only; omega)) d_RWr_add_70
  · refine lv_aload_n hx hb d_RWr_add_7 rfl (lv_at hl 0 rfl) ?_
    refine lv_aload_n hx hb d_RWr_add_8 rfl (lv_at hl 0 rfl) ?_
    refine va_get (D := D) (ci := 6) (v := .ref qs) (C := R_RWr) (T := T_RWr) (N := 2) hx hb hts inw_RWr hown hK hP 0 rfl rfl 0 (by decide) (hts (.fieldLink R_RWr 9 "LikelyBits$RawWriter" "segment" "LLikelyBits$Segment;") mw_128) (fun _ h9 => h9) rfl d_RWr_add_9 ?_
    refine kqi (va_runV (As := []) (rest := [.ref h0]) ⟨hx, hb, hml, hown, hts⟩ (c_Seg_last l hl9 D k qs qr qa a n f u L (by assumption)) (cwV 0 hts (gV mw_130 mw_68 mw_69 mw_53 mw_70) rfl rfl rfl (by decide +kernel) ⟨(Nat.le_of_ble_eq_true rfl), (Nat.le_of_ble_eq_true rfl)⟩) (kRecv (q := (R_Seg, T_Seg, 2)) (q0 := 1) (ci := 2) hK hP rfl rfl (kPreR (wc := [(qs, .inr (2, [.ref qr, .int a])), (qr, .inr (0, [.ref qa, .int u])), (qa, .inl (k.1, n, .inl f))]) hE hK hP hS [1, 2, 3] rfl)) rfl rfl hl.1 rfl (lv_room (Nat.le_of_ble_eq_true rfl)) d_RWr_add_12 ⟨(Nat.le_of_ble_eq_true rfl), (Nat.le_of_ble_eq_true rfl)⟩) hP hS (fun r9 H locs hw hP hS => ?_)
    replace hw := hw.symm
    subst hw
    refine lv_sipush (v := 255) hx hb d_RWr_add_15 (by decide) ?_
    refine lv_icmp_ne (tgt := 26) hx hb d_RWr_add_18 (by decide) (fun c10 => ?_) (fun c10 => ?_)
    · refine lv_bipush (v := 8) hx hb d_RWr_add_26 (by decide) ?_
      refine va_put (D := D) (ci := 6) (v := .int 8) (ty := .int) (C := R_RWr) (T := T_RWr) (N := 2) hx hb hts inw_RWr ty_RWr tyok_RWr nm_RWr hown hK hP hD hS 0 rfl rfl 1 (by decide) (hts (.fieldLink R_RWr 15 "LikelyBits$RawWriter" "room" "I") mw_129) (fun _ h9 => h9) rfl (by decide +kernel) rfl rfl (Nat.le_of_ble_eq_true rfl) d_RWr_add_28 (fun H locs hP hD hS => ?_)
      have hP : va_P D vwCl [(h0, .inr (6, [.ref qs, .int 8])), (qs, .inr (2, [.ref qr, .int a])), (qr, .inr (0, [.ref qa, .int u])), (qa, .inl (k.1, n, .inl f))] H := hP
      have hD : va_D A [(h0, .inr (6, [.ref qs, .int 8])), (qs, .inr (2, [.ref qr, .int a])), (qr, .inr (0, [.ref qa, .int u])), (qa, .inl (k.1, n, .inl f))] := hD
      refine lv_aload_n hx hb d_RWr_add_31 rfl (lv_at hl 0 rfl) ?_
      refine va_get (D := D) (ci := 6) (v := .ref qs) (C := R_RWr) (T := T_RWr) (N := 2) hx hb hts inw_RWr hown hK hP 0 rfl rfl 0 (by decide) (hts (.fieldLink R_RWr 9 "LikelyBits$RawWriter" "segment" "LLikelyBits$Segment;") mw_128) (fun _ h9 => h9) rfl d_RWr_add_32 ?_
      refine lv_iconst (v := 0) hx hb d_RWr_add_35 (by decide) ?_
      have hbn : (rad a rm n L b).2.1 = apn n L := (by simp [rad, ra2, c1, c10])
      refine kcv (wc := [(qs, .inr (2, [.ref qr, .int a])), (qr, .inr (0, [.ref qa, .int u])), (qa, .inl (k.1, n, .inl f))]) (wr := [(h0, .inr (6, [.ref qs, .int 8]))]) (va_runV (As := [.int 0]) (rest := []) ⟨hx, hb, hml, hown, hts⟩ (c_Seg_append l hl9 D k qs qr qa H.size a n f u L 0 (by assumption)) (cwV 1 hts (gV mw_132 mw_84 mw_85 mw_53 mw_86) rfl rfl rfl (by decide +kernel) ⟨(Nat.le_of_ble_eq_true rfl), (Nat.le_of_ble_eq_true rfl)⟩) (kRecv (q := (R_Seg, T_Seg, 2)) (q0 := 1) (ci := 2) hK hP rfl rfl (kPre (wc := [(qs, .inr (2, [.ref qr, .int a])), (qr, .inr (0, [.ref qa, .int u])), (qa, .inl (k.1, n, .inl f))]) hE hK hP hD hS hA [1, 2, 3] rfl (by decide))) rfl rfl hl.1 rfl (lv_room (Nat.le_of_ble_eq_true rfl)) d_RWr_add_36 ⟨(by first | omega | (dsimp only; omega)), (by first | omega | (dsimp only; omega))⟩) hP hD hS hA [1, 2, 3] [0] rfl rfl (by decide) (by decide) (fun zz uu H locs hw17 hz18 hP hD hS => ?_)
      obtain ⟨q_13, f_14, u_15⟩ := zz
      obtain ⟨n_11, L_12⟩ := uu
      have hw17 : n_11 = apn n L ∧ L_12 = app L 0 := hw17
      have hz18 : row_ok n_11 f_14 u_15 L_12 := hz18
      have hP : va_P D vwCl [(h0, .inr (6, [.ref qs, .int 8])), (qs, .inr (2, [.ref qr, .int a])), (qr, .inr (0, [.ref q_13, .int u_15])), (q_13, .inl (k.1, n_11, .inl f_14))] H := hP
      have hD : va_D A [(h0, .inr (6, [.ref qs, .int 8])), (qs, .inr (2, [.ref qr, .int a])), (qr, .inr (0, [.ref q_13, .int u_15])), (q_13, .inl (k.1, n_11, .inl f_14))] := hD
      refine lv_aload_n hx hb d_RWr_add_39 rfl (lv_at hl 0 rfl) ?_
      refine lv_dup hx hb d_RWr_add_40 rfl ?_
      refine va_get (D := D) (ci := 6) (v := .int 8) (C := R_RWr) (T := T_RWr) (N := 2) hx hb hts inw_RWr hown hK hP 0 rfl rfl 1 (by decide) (hts (.fieldLink R_RWr 15 "LikelyBits$RawWriter" "room" "I") mw_129) (fun _ h9 => h9) rfl d_RWr_add_41 ?_
      refine lv_iconst (v := 1) hx hb d_RWr_add_44 (by decide) ?_
      refine lv_isub hx hb d_RWr_add_45 ?_
      refine lv_topi (fun x19 ex19 => ?_)
      refine va_put (D := D) (ci := 6) (v := .int x19) (ty := .int) (C := R_RWr) (T := T_RWr) (N := 2) hx hb hts inw_RWr ty_RWr tyok_RWr nm_RWr hown hK hP hD hS 0 rfl rfl 1 (by decide) (hts (.fieldLink R_RWr 15 "LikelyBits$RawWriter" "room" "I") mw_129) (fun _ h9 => h9) rfl (by decide +kernel) rfl rfl (Nat.le_of_ble_eq_true rfl) d_RWr_add_46 (fun H locs hP hD hS => ?_)
      have hP : va_P D vwCl [(h0, .inr (6, [.ref qs, .int x19])), (qs, .inr (2, [.ref qr, .int a])), (qr, .inr (0, [.ref q_13, .int u_15])), (q_13, .inl (k.1, n_11, .inl f_14))] H := hP
      have hD : va_D A [(h0, .inr (6, [.ref qs, .int x19])), (qs, .inr (2, [.ref qr, .int a])), (qr, .inr (0, [.ref q_13, .int u_15])), (q_13, .inl (k.1, n_11, .inl f_14))] := hD
      refine lv_aload_n hx hb d_RWr_add_49 rfl (lv_at hl 0 rfl) ?_
      refine va_get (D := D) (ci := 6) (v := .ref qs) (C := R_RWr) (T := T_RWr) (N := 2) hx hb hts inw_RWr hown hK hP 0 rfl rfl 0 (by decide) (hts (.fieldLink R_RWr 9 "LikelyBits$RawWriter" "segment" "LLikelyBits$Segment;") mw_128) (fun _ h9 => h9) rfl d_RWr_add_50 ?_
      refine lv_aload_n hx hb d_RWr_add_53 rfl (lv_at hl 0 rfl) ?_
      refine va_get (D := D) (ci := 6) (v := .ref qs) (C := R_RWr) (T := T_RWr) (N := 2) hx hb hts inw_RWr hown hK hP 0 rfl rfl 0 (by decide) (hts (.fieldLink R_RWr 9 "LikelyBits$RawWriter" "segment" "LLikelyBits$Segment;") mw_128) (fun _ h9 => h9) rfl d_RWr_add_54 ?_
      refine kqi (va_runV (As := []) (rest := [.ref qs]) ⟨hx, hb, hml, hown, hts⟩ (c_Seg_last l hl9 D k qs qr q_13 a n_11 f_14 u_15 L_12 (by assumption)) (cwV 0 hts (gV mw_130 mw_68 mw_69 mw_53 mw_70) rfl rfl rfl (by decide +kernel) ⟨(Nat.le_of_ble_eq_true rfl), (Nat.le_of_ble_eq_true rfl)⟩) (kRecv (q := (R_Seg, T_Seg, 2)) (q0 := 1) (ci := 2) hK hP rfl rfl (kPreR (wc := [(qs, .inr (2, [.ref qr, .int a])), (qr, .inr (0, [.ref q_13, .int u_15])), (q_13, .inl (k.1, n_11, .inl f_14))]) hE hK hP hS [1, 2, 3] rfl)) rfl rfl hl.1 rfl (lv_room (Nat.le_of_ble_eq_true rfl)) d_RWr_add_57 ⟨(by first | omega | (dsimp only; omega)), (by first | omega | (dsimp only; omega))⟩) hP hS (fun r20 H locs hw hP hS => ?_)
      replace hw := hw.symm
      subst hw
      refine lv_iload_n hx hb d_RWr_add_60 rfl (lv_at hl 1 rfl) ?_
      refine lv_aload_n hx hb d_RWr_add_61 rfl (lv_at hl 0 rfl) ?_
      refine va_get (D := D) (ci := 6) (v := .int x19) (C := R_RWr) (T := T_RWr) (N := 2) hx hb hts inw_RWr hown hK hP 0 rfl rfl 1 (by decide) (hts (.fieldLink R_RWr 15 "LikelyBits$RawWriter" "room" "I") mw_129) (fun _ h9 => h9) rfl d_RWr_add_62 ?_
      refine lv_ishl hx hb d_RWr_add_65 ?_
      refine lv_ior hx hb d_RWr_add_66 ?_
      refine kcv (wc := [(qs, .inr (2, [.ref qr, .int a])), (qr, .inr (0, [.ref q_13, .int u_15])), (q_13, .inl (k.1, n_11, .inl f_14))]) (wr := [(h0, .inr (6, [.ref qs, .int x19]))]) (va_runV (As := [.int ((sgl L_12 a) ||| (b <<< (x19 &&& 31)))]) (rest := []) ⟨hx, hb, hml, hown, hts⟩ (c_Seg_changeLast l hl9 D k qs qr q_13 H.size a n_11 f_14 u_15 L_12 ((sgl L_12 a) ||| (b <<< (x19 &&& 31))) (by assumption)) (cwV 1 hts (gV mw_131 mw_89 mw_90 mw_53 mw_91) rfl rfl rfl (by decide +kernel) ⟨(Nat.le_of_ble_eq_true rfl), (Nat.le_of_ble_eq_true rfl)⟩) (kRecv (q := (R_Seg, T_Seg, 2)) (q0 := 1) (ci := 2) hK hP rfl rfl (kPre (wc := [(qs, .inr (2, [.ref qr, .int a])), (qr, .inr (0, [.ref q_13, .int u_15])), (q_13, .inl (k.1, n_11, .inl f_14))]) hE hK hP hD hS hA [1, 2, 3] rfl (by decide))) rfl rfl hl.1 rfl (lv_room (Nat.le_of_ble_eq_true rfl)) d_RWr_add_67 ⟨(by first | omega | (dsimp only; omega)), (by first | omega | (dsimp only; omega))⟩) hP hD hS hA [1, 2, 3] [0] rfl rfl (by decide) (by decide) (fun zz uu H locs hw24 hz25 hP hD hS => ?_)
      obtain ⟨f_22, rfl⟩ : ∃ y, y = zz := ⟨_, rfl⟩
      obtain ⟨L_21, rfl⟩ : ∃ y, y = uu := ⟨_, rfl⟩
      have hw24 : L_21 = sgc L_12 a ((sgl L_12 a) ||| (b <<< (x19 &&& 31))) := hw24
      have hz25 : row_ok n_11 f_22 u_15 L_21 := hz25
      have hP : va_P D vwCl [(h0, .inr (6, [.ref qs, .int x19])), (qs, .inr (2, [.ref qr, .int a])), (qr, .inr (0, [.ref q_13, .int u_15])), (q_13, .inl (k.1, n_11, .inl f_22))] H := hP
      have hD : va_D A [(h0, .inr (6, [.ref qs, .int x19])), (qs, .inr (2, [.ref qr, .int a])), (qr, .inr (0, [.ref q_13, .int u_15])), (q_13, .inl (k.1, n_11, .inl f_22))] := hD
      exact krv (wo := wo_RWr_add k h0 qs qr qa rm a n f u L b) hx hb hr hlk hP hD hS (x19, n_11, L_21) (q_13, f_22, u_15) (by obtain rfl := hw24; subst ex19; obtain ⟨rfl, rfl⟩ := hw17; simp [po_RWr_add, rad, ra2, c1, c10]) (by assumption) [0, 1, 2, 3] rfl (by decide) (by first | omega | (dsimp only; omega)) (by first | omega | (dsimp only; omega)) d_RWr_add_70
    · refine lv_bipush (v := 7) hx hb d_RWr_add_21 (by decide) ?_
      refine lv_goto (tgt := 28) hx hb d_RWr_add_23 (by decide) ?_
      refine va_put (D := D) (ci := 6) (v := .int 7) (ty := .int) (C := R_RWr) (T := T_RWr) (N := 2) hx hb hts inw_RWr ty_RWr tyok_RWr nm_RWr hown hK hP hD hS 0 rfl rfl 1 (by decide) (hts (.fieldLink R_RWr 15 "LikelyBits$RawWriter" "room" "I") mw_129) (fun _ h9 => h9) rfl (by decide +kernel) rfl rfl (Nat.le_of_ble_eq_true rfl) d_RWr_add_28 (fun H locs hP hD hS => ?_)
      have hP : va_P D vwCl [(h0, .inr (6, [.ref qs, .int 7])), (qs, .inr (2, [.ref qr, .int a])), (qr, .inr (0, [.ref qa, .int u])), (qa, .inl (k.1, n, .inl f))] H := hP
      have hD : va_D A [(h0, .inr (6, [.ref qs, .int 7])), (qs, .inr (2, [.ref qr, .int a])), (qr, .inr (0, [.ref qa, .int u])), (qa, .inl (k.1, n, .inl f))] := hD
      refine lv_aload_n hx hb d_RWr_add_31 rfl (lv_at hl 0 rfl) ?_
      refine va_get (D := D) (ci := 6) (v := .ref qs) (C := R_RWr) (T := T_RWr) (N := 2) hx hb hts inw_RWr hown hK hP 0 rfl rfl 0 (by decide) (hts (.fieldLink R_RWr 9 "LikelyBits$RawWriter" "segment" "LLikelyBits$Segment;") mw_128) (fun _ h9 => h9) rfl d_RWr_add_32 ?_
      refine lv_iconst (v := 0) hx hb d_RWr_add_35 (by decide) ?_
      have hbn : (rad a rm n L b).2.1 = apn n L := (by simp [rad, ra2, c1, c10])
      refine kcv (wc := [(qs, .inr (2, [.ref qr, .int a])), (qr, .inr (0, [.ref qa, .int u])), (qa, .inl (k.1, n, .inl f))]) (wr := [(h0, .inr (6, [.ref qs, .int 7]))]) (va_runV (As := [.int 0]) (rest := []) ⟨hx, hb, hml, hown, hts⟩ (c_Seg_append l hl9 D k qs qr qa H.size a n f u L 0 (by assumption)) (cwV 1 hts (gV mw_132 mw_84 mw_85 mw_53 mw_86) rfl rfl rfl (by decide +kernel) ⟨(Nat.le_of_ble_eq_true rfl), (Nat.le_of_ble_eq_true rfl)⟩) (kRecv (q := (R_Seg, T_Seg, 2)) (q0 := 1) (ci := 2) hK hP rfl rfl (kPre (wc := [(qs, .inr (2, [.ref qr, .int a])), (qr, .inr (0, [.ref qa, .int u])), (qa, .inl (k.1, n, .inl f))]) hE hK hP hD hS hA [1, 2, 3] rfl (by decide))) rfl rfl hl.1 rfl (lv_room (Nat.le_of_ble_eq_true rfl)) d_RWr_add_36 ⟨(by first | omega | (dsimp only; omega)), (by first | omega | (dsimp only; omega))⟩) hP hD hS hA [1, 2, 3] [0] rfl rfl (by decide) (by decide) (fun zz uu H locs hw32 hz33 hP hD hS => ?_)
      obtain ⟨q_28, f_29, u_30⟩ := zz
      obtain ⟨n_26, L_27⟩ := uu
      have hw32 : n_26 = apn n L ∧ L_27 = app L 0 := hw32
      have hz33 : row_ok n_26 f_29 u_30 L_27 := hz33
      have hP : va_P D vwCl [(h0, .inr (6, [.ref qs, .int 7])), (qs, .inr (2, [.ref qr, .int a])), (qr, .inr (0, [.ref q_28, .int u_30])), (q_28, .inl (k.1, n_26, .inl f_29))] H := hP
      have hD : va_D A [(h0, .inr (6, [.ref qs, .int 7])), (qs, .inr (2, [.ref qr, .int a])), (qr, .inr (0, [.ref q_28, .int u_30])), (q_28, .inl (k.1, n_26, .inl f_29))] := hD
      refine lv_aload_n hx hb d_RWr_add_39 rfl (lv_at hl 0 rfl) ?_
      refine lv_dup hx hb d_RWr_add_40 rfl ?_
      refine va_get (D := D) (ci := 6) (v := .int 7) (C := R_RWr) (T := T_RWr) (N := 2) hx hb hts inw_RWr hown hK hP 0 rfl rfl 1 (by decide) (hts (.fieldLink R_RWr 15 "LikelyBits$RawWriter" "room" "I") mw_129) (fun _ h9 => h9) rfl d_RWr_add_41 ?_
      refine lv_iconst (v := 1) hx hb d_RWr_add_44 (by decide) ?_
      refine lv_isub hx hb d_RWr_add_45 ?_
      refine lv_topi (fun x34 ex34 => ?_)
      refine va_put (D := D) (ci := 6) (v := .int x34) (ty := .int) (C := R_RWr) (T := T_RWr) (N := 2) hx hb hts inw_RWr ty_RWr tyok_RWr nm_RWr hown hK hP hD hS 0 rfl rfl 1 (by decide) (hts (.fieldLink R_RWr 15 "LikelyBits$RawWriter" "room" "I") mw_129) (fun _ h9 => h9) rfl (by decide +kernel) rfl rfl (Nat.le_of_ble_eq_true rfl) d_RWr_add_46 (fun H locs hP hD hS => ?_)
      have hP : va_P D vwCl [(h0, .inr (6, [.ref qs, .int x34])), (qs, .inr (2, [.ref qr, .int a])), (qr, .inr (0, [.ref q_28, .int u_30])), (q_28, .inl (k.1, n_26, .inl f_29))] H := hP
      have hD : va_D A [(h0, .inr (6, [.ref qs, .int x34])), (qs, .inr (2, [.ref qr, .int a])), (qr, .inr (0, [.ref q_28, .int u_30])), (q_28, .inl (k.1, n_26, .inl f_29))] := hD
      refine lv_aload_n hx hb d_RWr_add_49 rfl (lv_at hl 0 rfl) ?_
      refine va_get (D := D) (ci := 6) (v := .ref qs) (C := R_RWr) (T := T_RWr) (N := 2) hx hb hts inw_RWr hown hK hP 0 rfl rfl 0 (by decide) (hts (.fieldLink R_RWr 9 "LikelyBits$RawWriter" "segment" "LLikelyBits$Segment;") mw_128) (fun _ h9 => h9) rfl d_RWr_add_50 ?_
      refine lv_aload_n hx hb d_RWr_add_53 rfl (lv_at hl 0 rfl) ?_
      refine va_get (D := D) (ci := 6) (v := .ref qs) (C := R_RWr) (T := T_RWr) (N := 2) hx hb hts inw_RWr hown hK hP 0 rfl rfl 0 (by decide) (hts (.fieldLink R_RWr 9 "LikelyBits$RawWriter" "segment" "LLikelyBits$Segment;") mw_128) (fun _ h9 => h9) rfl d_RWr_add_54 ?_
      refine kqi (va_runV (As := []) (rest := [.ref qs]) ⟨hx, hb, hml, hown, hts⟩ (c_Seg_last l hl9 D k qs qr q_28 a n_26 f_29 u_30 L_27 (by assumption)) (cwV 0 hts (gV mw_130 mw_68 mw_69 mw_53 mw_70) rfl rfl rfl (by decide +kernel) ⟨(Nat.le_of_ble_eq_true rfl), (Nat.le_of_ble_eq_true rfl)⟩) (kRecv (q := (R_Seg, T_Seg, 2)) (q0 := 1) (ci := 2) hK hP rfl rfl (kPreR (wc := [(qs, .inr (2, [.ref qr, .int a])), (qr, .inr (0, [.ref q_28, .int u_30])), (q_28, .inl (k.1, n_26, .inl f_29))]) hE hK hP hS [1, 2, 3] rfl)) rfl rfl hl.1 rfl (lv_room (Nat.le_of_ble_eq_true rfl)) d_RWr_add_57 ⟨(by first | omega | (dsimp only; omega)), (by first | omega | (dsimp only; omega))⟩) hP hS (fun r35 H locs hw hP hS => ?_)
      replace hw := hw.symm
      subst hw
      refine lv_iload_n hx hb d_RWr_add_60 rfl (lv_at hl 1 rfl) ?_
      refine lv_aload_n hx hb d_RWr_add_61 rfl (lv_at hl 0 rfl) ?_
      refine va_get (D := D) (ci := 6) (v := .int x34) (C := R_RWr) (T := T_RWr) (N := 2) hx hb hts inw_RWr hown hK hP 0 rfl rfl 1 (by decide) (hts (.fieldLink R_RWr 15 "LikelyBits$RawWriter" "room" "I") mw_129) (fun _ h9 => h9) rfl d_RWr_add_62 ?_
      refine lv_ishl hx hb d_RWr_add_65 ?_
      refine lv_ior hx hb d_RWr_add_66 ?_
      refine kcv (wc := [(qs, .inr (2, [.ref qr, .int a])), (qr, .inr (0, [.ref q_28, .int u_30])), (q_28, .inl (k.1, n_26, .inl f_29))]) (wr := [(h0, .inr (6, [.ref qs, .int x34]))]) (va_runV (As := [.int ((sgl L_27 a) ||| (b <<< (x34 &&& 31)))]) (rest := []) ⟨hx, hb, hml, hown, hts⟩ (c_Seg_changeLast l hl9 D k qs qr q_28 H.size a n_26 f_29 u_30 L_27 ((sgl L_27 a) ||| (b <<< (x34 &&& 31))) (by assumption)) (cwV 1 hts (gV mw_131 mw_89 mw_90 mw_53 mw_91) rfl rfl rfl (by decide +kernel) ⟨(Nat.le_of_ble_eq_true rfl), (Nat.le_of_ble_eq_true rfl)⟩) (kRecv (q := (R_Seg, T_Seg, 2)) (q0 := 1) (ci := 2) hK hP rfl rfl (kPre (wc := [(qs, .inr (2, [.ref qr, .int a])), (qr, .inr (0, [.ref q_28, .int u_30])), (q_28, .inl (k.1, n_26, .inl f_29))]) hE hK hP hD hS hA [1, 2, 3] rfl (by decide))) rfl rfl hl.1 rfl (lv_room (Nat.le_of_ble_eq_true rfl)) d_RWr_add_67 ⟨(by first | omega | (dsimp only; omega)), (by first | omega | (dsimp only; omega))⟩) hP hD hS hA [1, 2, 3] [0] rfl rfl (by decide) (by decide) (fun zz uu H locs hw39 hz40 hP hD hS => ?_)
      obtain ⟨f_37, rfl⟩ : ∃ y, y = zz := ⟨_, rfl⟩
      obtain ⟨L_36, rfl⟩ : ∃ y, y = uu := ⟨_, rfl⟩
      have hw39 : L_36 = sgc L_27 a ((sgl L_27 a) ||| (b <<< (x34 &&& 31))) := hw39
      have hz40 : row_ok n_26 f_37 u_30 L_36 := hz40
      have hP : va_P D vwCl [(h0, .inr (6, [.ref qs, .int x34])), (qs, .inr (2, [.ref qr, .int a])), (qr, .inr (0, [.ref q_28, .int u_30])), (q_28, .inl (k.1, n_26, .inl f_37))] H := hP
      have hD : va_D A [(h0, .inr (6, [.ref qs, .int x34])), (qs, .inr (2, [.ref qr, .int a])), (qr, .inr (0, [.ref q_28, .int u_30])), (q_28, .inl (k.1, n_26, .inl f_37))] := hD
      exact krv (wo := wo_RWr_add k h0 qs qr qa rm a n f u L b) hx hb hr hlk hP hD hS (x34, n_26, L_36) (q_28, f_37, u_30) (by obtain rfl := hw39; subst ex34; obtain ⟨rfl, rfl⟩ := hw32; simp [po_RWr_add, rad, ra2, c1, c10]) (by assumption) [0, 1, 2, 3] rfl (by decide) (by first | omega | (dsimp only; omega)) (by first | omega | (dsimp only; omega)) d_RWr_add_70

def wo_RWr_end (k : gK) (h0 qs qr qa : Nat) (rm : Int32) (a : Int32) (n : Nat) (f : Nat → Int32) (u : Int32) (L : List Int32) (zz : Nat × (Nat → Int32) × Int32) (uu : Int32 × Nat × List Int32) : va_W := match zz, uu with
  | (q2, f2, u2), (rm2, n2, L2) => [(h0, .inr (6, [.ref qs, .int rm2])), (qs, .inr (2, [.ref qr, .int a])), (qr, .inr (0, [.ref q2, .int u2])), (q2, .inl (k.1, n2, .inl f2))]
def ex_RWr_end (k : gK) (h0 qs qr qa : Nat) (rm : Int32) (a : Int32) (n : Nat) (f : Nat → Int32) (u : Int32) (L : List Int32) (zz : Nat × (Nat → Int32) × Int32) (uu : Int32 × Nat × List Int32) : Prop := match zz, uu with
  | (q2, f2, u2), (rm2, n2, L2) => row_ok n2 f2 u2 L2
def po_RWr_end (k : gK) (h0 qs qr qa : Nat) (rm : Int32) (a : Int32) (n : Nat) (f : Nat → Int32) (u : Int32) (L : List Int32) (uu : Int32 × Nat × List Int32) : Prop := match uu with
  | (rm2, n2, L2) => rm2 = (rwe rm.toNatClampNeg a 0 rm n L).1 ∧ n2 = (rwe rm.toNatClampNeg a 0 rm n L).2.1 ∧ L2 = (rwe rm.toNatClampNeg a 0 rm n L).2.2
def qc_RWr_end (D : va_G) (k : gK) (h0 qs qr qa : Nat) (rm : Int32) (a : Int32) (n : Nat) (f : Nat → Int32) (u : Int32) (L : List Int32) (A : Nat → Prop) : Array Value → State → Outcome → State → Prop := va_Qv (po_RWr_end k h0 qs qr qa rm a n f u L) (fun uu t => ∃ zz, ex_RWr_end k h0 qs qr qa rm a n f u L zz uu ∧ GP D A (wo_RWr_end k h0 qs qr qa rm a n f u L zz uu) t) A
set_option maxHeartbeats 1000000 in
set_option maxRecDepth 100000 in
theorem lp_RWr_end_7 (l : Launch) (hl9 : l.stackTraces = false) (D : va_G) (k : gK) (h0 qs qr qa : Nat) (rm : Int32) (a : Int32) (n : Nat) (f : Nat → Int32) (u : Int32) (L : List Int32) {p : Program} {e : Env} {s : State} {m : MethodId} {below : List Frame} {meth : Method} {c : Code} {A : Nat → Prop} (Cc : Cx p s m ([.ref h0] : List Value).toArray meth c b_RWr_end 3 none y_RWr_end.cls y_RWr_end.name D k A) (hA : ∀ q : Nat, s.heap.size ≤ q → A q) :
    ∀ (t : Nat) (i1 : Int32) (rm1 : Int32) (qa1 : Nat) (n1 : Nat) (f1 : Nat → Int32) (u1 : Int32) (L1 : List Int32), row_ok n1 f1 u1 L1 → rwe rm.toNatClampNeg a 0 rm n L = rwe t a i1 rm1 n1 L1 → i1 = nI (rm.toNatClampNeg - t) → t ≤ rm.toNatClampNeg → ∀ (H : Heap) (locs : List Loc) (cells slots : Nat), cells ≤ n1 - n ∧ slots ≤ 2 * (n1 - n) ∧ n ≤ n1 → va_P D vwCl [(h0, .inr (6, [.ref qs, .int rm1])), (qs, .inr (2, [.ref qr, .int a])), (qr, .inr (0, [.ref qa1, .int u1])), (qa1, .inl (k.1, n1, .inl f1))] H → va_D A [(h0, .inr (6, [.ref qs, .int rm1])), (qs, .inr (2, [.ref qr, .int a])), (qr, .inr (0, [.ref qa1, .int u1])), (qa1, .inl (k.1, n1, .inl f1))] → va_S A s.heap H locs → ∀ ls : Array Slot, lv_has ls 3 [(2, .int i1), (1, .int rm), (0, .ref h0)] → W p l e ({ frames := 5, cells := (rwe rm.toNatClampNeg a 0 rm n L).2.1 - n, slots := 2 * ((rwe rm.toNatClampNeg a 0 rm n L).2.1 - n), locals := 145 }) s m ([.ref h0] : List Value).toArray below meth c H locs cells slots (MQ below (qc_RWr_end D k h0 qs qr qa rm a n f u L A) ([.ref h0] : List Value).toArray s ((rwe rm.toNatClampNeg a 0 rm n L).2.1 - n) (2 * ((rwe rm.toNatClampNeg a 0 rm n L).2.1 - n)) A) (F0 m 7 ls []) := by
  have Cc9 := Cc
  obtain ⟨hx, hb, hml, hr, hlk, hown, hts, hK, hE, hin⟩ := Cc
  intro t
  induction t with
  | zero =>
    intro i1 rm1 qa1 n1 f1 u1 L1 hR1 hF hi ht H locs cells slots hrm hP hD hS ls hl
    refine lv_iload_n hx hb d_RWr_end_7 rfl (lv_at hl 0 rfl) ?_
    refine lv_iload_n hx hb d_RWr_end_8 rfl (lv_at hl 1 rfl) ?_
    refine lv_icmp_ge (tgt := 25) hx hb d_RWr_end_9 (by decide) (fun c1 => ?_) (fun c1 => ?_)
    · exact krv (wo := wo_RWr_end k h0 qs qr qa rm a n f u L) hx hb hr hlk hP hD hS (rm1, n1, L1) (qa1, f1, u1) (by simp only [po_RWr_end]; rw [hF]; simp [rwe]) hR1 [0, 1, 2, 3] rfl (by decide) (by rw [hF]; simp only [rwe]; omega) (by rw [hF]; simp only [rwe]; omega) d_RWr_end_25
    · exact absurd (by rw [hi]; exact gap_out) c1
  | succ t ih =>
    intro i1 rm1 qa1 n1 f1 u1 L1 hR1 hF hi ht H locs cells slots hrm hP hD hS ls hl
    refine lv_iload_n hx hb d_RWr_end_7 rfl (lv_at hl 0 rfl) ?_
    refine lv_iload_n hx hb d_RWr_end_8 rfl (lv_at hl 1 rfl) ?_
    refine lv_icmp_ge (tgt := 25) hx hb d_RWr_end_9 (by decide) (fun c2 => ?_) (fun c2 => ?_)
    · exact absurd (by rw [hi] at c2; exact c2) (gap_in ht)
    · refine lv_aload_n hx hb d_RWr_end_12 rfl (lv_at hl 2 rfl) ?_
      refine lv_iload_n hx hb d_RWr_end_13 rfl (lv_at hl 0 rfl) ?_
      refine lv_iconst (v := 1) hx hb d_RWr_end_14 (by decide) ?_
      refine lv_iand hx hb d_RWr_end_15 ?_
      have hb1 := rad_le a rm1 n1 L1 (i1 &&& 1)
      have hb2 : (rad a rm1 n1 L1 (i1 &&& 1)).2.1 ≤ (rwe rm.toNatClampNeg a 0 rm n L).2.1 := by rw [hF, rwe]; exact rwe_le _ _ _ _ _ _
      refine kcv (wc := [(h0, .inr (6, [.ref qs, .int rm1])), (qs, .inr (2, [.ref qr, .int a])), (qr, .inr (0, [.ref qa1, .int u1])), (qa1, .inl (k.1, n1, .inl f1))]) (wr := []) (va_runV (As := [.int (i1 &&& 1)]) (rest := []) ⟨hx, hb, hml, hown, hts⟩ (c_RWr_add l hl9 D k h0 qs qr qa1 H.size rm1 a n1 f1 u1 L1 (i1 &&& 1) (by assumption)) (cwV 1 hts (gV mw_133 mw_134 mw_135 mw_136 mw_137) rfl rfl rfl (by decide +kernel) ⟨(Nat.le_of_ble_eq_true rfl), (Nat.le_of_ble_eq_true rfl)⟩) (kRecv (q := (R_RWr, T_RWr, 2)) (q0 := 0) (ci := 6) hK hP rfl rfl (kPre (wc := [(h0, .inr (6, [.ref qs, .int rm1])), (qs, .inr (2, [.ref qr, .int a])), (qr, .inr (0, [.ref qa1, .int u1])), (qa1, .inl (k.1, n1, .inl f1))]) hE hK hP hD hS hA [0, 1, 2, 3] rfl (by decide))) rfl rfl hl.1 rfl (lv_room (Nat.le_of_ble_eq_true rfl)) d_RWr_end_16 ⟨(by first | omega | (dsimp only; omega)), (by first | omega | (dsimp only; omega))⟩) hP hD hS hA [0, 1, 2, 3] [] rfl rfl (by decide) (by decide) (fun zz uu H locs hw10 hz11 hP hD hS => ?_)
      obtain ⟨q_6, f_7, u_8⟩ := zz
      obtain ⟨rm_3, n_4, L_5⟩ := uu
      have hw10 : rm_3 = (rad a rm1 n1 L1 (i1 &&& 1)).1 ∧ n_4 = (rad a rm1 n1 L1 (i1 &&& 1)).2.1 ∧ L_5 = (rad a rm1 n1 L1 (i1 &&& 1)).2.2 := hw10
      have hz11 : row_ok n_4 f_7 u_8 L_5 := hz11
      have hP : va_P D vwCl [(h0, .inr (6, [.ref qs, .int rm_3])), (qs, .inr (2, [.ref qr, .int a])), (qr, .inr (0, [.ref q_6, .int u_8])), (q_6, .inl (k.1, n_4, .inl f_7))] H := hP
      have hD : va_D A [(h0, .inr (6, [.ref qs, .int rm_3])), (qs, .inr (2, [.ref qr, .int a])), (qr, .inr (0, [.ref q_6, .int u_8])), (q_6, .inl (k.1, n_4, .inl f_7))] := hD
      obtain ⟨x12, ex12⟩ : ∃ y : Int32, y = i1 + 1 := ⟨_, rfl⟩
      refine lv_iinc (v := x12) (lv' := [(2, .int x12), (1, .int rm), (0, .ref h0)]) hx hb d_RWr_end_19 hl (k := 0) rfl (by rw [ex12]; rfl) (by decide) rfl (fun ls hl => ?_)
      refine lv_goto (tgt := 7) hx hb d_RWr_end_22 (by decide) ?_
      exact ih x12 rm_3 q_6 n_4 f_7 u_8 L_5 (by assumption) (by subst ex12; obtain ⟨rfl, rfl, rfl⟩ := hw10; rw [hF, rwe]) (by rw [ex12, hi, show rm.toNatClampNeg - t = (rm.toNatClampNeg - (t + 1)) + 1 by omega]; exact nI_1 _) (by omega) H _ _ _ (by exact ⟨by omega, by omega, by omega⟩) (ka_P hP (is := [0, 1, 2, 3]) rfl) (hD.sub [0, 1, 2, 3] (by decide) rfl) hS ls (lv_sub hl [0, 1, 2] rfl)
set_option maxHeartbeats 1000000 in
set_option maxRecDepth 100000 in
theorem c_RWr_end (l : Launch) (hl9 : l.stackTraces = false) (D : va_G) (k : gK) (h0 qs qr qa : Nat) (zsz : Nat) (rm : Int32) (a : Int32) (n : Nat) (f : Nat → Int32) (u : Int32) (L : List Int32) (hR : row_ok n f u L) : Met l y_RWr_end (.code y_RWr_end b_RWr_end 3 none :: AW) ({ frames := 5, cells := (rwe rm.toNatClampNeg a 0 rm n L).2.1 - n, slots := 2 * ((rwe rm.toNatClampNeg a 0 rm n L).2.1 - n), locals := 145 }) (va_Pc [.ref h0] (GG D k [(h0, .inr (6, [.ref qs, .int rm])), (qs, .inr (2, [.ref qr, .int a])), (qr, .inr (0, [.ref qa, .int u])), (qa, .inl (k.1, n, .inl f))] zsz)) (qc_RWr_end D k h0 qs qr qa rm a n f u L (va_A [(h0, .inr (6, [.ref qs, .int rm])), (qs, .inr (2, [.ref qr, .int a])), (qr, .inr (0, [.ref qa, .int u])), (qa, .inl (k.1, n, .inl f))] zsz)) ((rwe rm.toNatClampNeg a 0 rm n L).2.1 - n) (2 * ((rwe rm.toNatClampNeg a 0 rm n L).2.1 - n)) (va_A [(h0, .inr (6, [.ref qs, .int rm])), (qs, .inr (2, [.ref qr, .int a])), (qr, .inr (0, [.ref qa, .int u])), (qa, .inl (k.1, n, .inl f))] zsz) := by
  refine kMet (ws := [(h0, .inr (6, [.ref qs, .int rm])), (qs, .inr (2, [.ref qr, .int a])), (qr, .inr (0, [.ref qa, .int u])), (qa, .inl (k.1, n, .inl f))]) (Qc := qc_RWr_end D k h0 qs qr qa rm a n f u L) (by decide) (Nat.le_of_ble_eq_true rfl) (fun p e s m below meth c ls A H Cc hP hD hA hS hl => ?_)
  have Cc9 := Cc
  obtain ⟨hx, hb, hml, hr, hlk, hown, hts, hK, hE, hin⟩ := Cc
  have hl : lv_has ls 3 [(0, .ref h0)] := hl
  refine lv_aload_n hx hb d_RWr_end_0 rfl (lv_at hl 0 rfl) ?_
  refine va_get (D := D) (ci := 6) (v := .int rm) (C := R_RWr) (T := T_RWr) (N := 2) hx hb hts inw_RWr hown hK hP 0 rfl rfl 1 (by decide) (hts (.fieldLink R_RWr 15 "LikelyBits$RawWriter" "room" "I") mw_129) (fun _ h9 => h9) rfl d_RWr_end_1 ?_
  refine lv_istore_n (lv' := [(1, .int rm), (0, .ref h0)]) hx hb d_RWr_end_4 rfl hl (by decide) rfl (fun ls hl => ?_)
  refine lv_iconst (v := 0) hx hb d_RWr_end_5 (by decide) ?_
  refine lv_istore_n (lv' := [(2, .int 0), (1, .int rm), (0, .ref h0)]) hx hb d_RWr_end_6 rfl hl (by decide) rfl (fun ls hl => ?_)
  exact lp_RWr_end_7 l hl9 D k h0 qs qr qa rm a n f u L Cc9 hA rm.toNatClampNeg 0 rm qa n f u L hR rfl (by rw [Nat.sub_self]; rfl) (Nat.le_refl _) H _ _ _ ⟨Nat.zero_le _, Nat.zero_le _, Nat.le_refl _⟩ (ka_P hP (is := [0, 1, 2, 3]) rfl) (hD.sub [0, 1, 2, 3] (by decide) rfl) hS ls (lv_sub hl [0, 1, 2] rfl)
end

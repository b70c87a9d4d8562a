/-! how a contract is opened, called and ended: my own rows over the kit's -/
section KA
variable {ws wc : va_W}
theorem ka_mem {is : List Nat} (hC : is.map (fun i => ws[i]?) = wc.map some) {j : Nat} {q : Nat × va_E} (h : wc[j]? = some q) : ∃ i : Nat, ws[i]? = some q := by
  have h1 : (is.map (fun i => ws[i]?))[j]? = some (some q) := by rw [hC, List.getElem?_map, h]; rfl
  rw [List.getElem?_map] at h1
  cases hi : is[j]? with
  | none => rw [hi] at h1; cases h1
  | some i => rw [hi] at h1; exact ⟨i, Option.some.inj h1⟩
theorem ka_P {D : va_G} {cl : List vw_C} {H : Heap} (hP : va_P D cl ws H) {is : List Nat} (hC : is.map (fun i => ws[i]?) = wc.map some) : va_P D cl wc H := fun _ _ hj => (ka_mem hC hj).elim fun _ hi => hP _ _ hi
theorem ka_keep {D : va_G} {cl : List vw_C} {H H1 : Heap} (hP : va_P D cl ws H) (h : ∀ q : Nat, q < H.size → H1[q]? = H[q]?) : va_P D cl ws H1 := hP.kept fun k q hk => h q.1 (hP k q hk).lt
end KA
/-- the world with which a method begins; one that it only reads -/
def GG (D : va_G) (k : gK) (ws : va_W) (sz : Nat) (U : State) : Prop := U.heap.size = sz ∧ va_P D vwCl ws U.heap ∧ va_K D vwCl (gTY k) U ∧ va_D (fun _ => True) ws ∧ EV k (va_A ws sz) U U.heap
def GR (D : va_G) (k : gK) (ws : va_W) (U : State) : Prop := va_P D vwCl ws U.heap ∧ va_K D vwCl (gTY k) U ∧ EV k (fun _ => False) U U.heap
/-- the world behind it -/
def GP (D : va_G) (A : Nat → Prop) (ws : va_W) (t : State) : Prop := va_P D vwCl ws t.heap ∧ va_D A ws
theorem GG.blind {D : va_G} {k : gK} {ws : va_W} {sz : Nat} {av : List Value} : FrameBlind (va_Pc av (GG D k ws sz)) := by
  intro a U g mk q
  obtain ⟨q0, q1, qP, qK, qD, qE⟩ := q
  exact ⟨q0, q1, qP, va_K.moved (u := U) (U := U.calling g mk a) (Vm.Alike.refl U.vm) qK, qD, EV.same (s := U) (U := U.calling g mk a) (H := U.heap) rfl rfl qE⟩
theorem GR.blind {D : va_G} {k : gK} {ws : va_W} {av : List Value} : FrameBlind (va_Pc av (GR D k ws)) := by
  intro a U g mk q
  obtain ⟨q0, qP, qK, qE⟩ := q
  exact ⟨q0, qP, va_K.moved (u := U) (U := U.calling g mk a) (Vm.Alike.refl U.vm) qK, EV.same (s := U) (U := U.calling g mk a) (H := U.heap) rfl rfl qE⟩
section KC
variable {p : Program} {l : Launch} {e : Env} {R : Room} {s : State} {m : MethodId} {args : Array Value} {below : List Frame} {meth : Method} {c : Code} {H : Heap} {locs : List Loc} {cells slots : Nat} {Q : State → Prop}
variable {D : va_G} {k : gK} {A : Nat → Prop} {ws wc wr : va_W}
/-- the facts that every walk has -/
def Cx (p : Program) (s : State) (m : MethodId) (args : Array Value) (meth : Method) (c : Code) (cc : ByteArray) (maxL : Nat) (ret : Option FieldType) (own nm : String) (D : va_G) (k : gK) (A : Nat → Prop) : Prop :=
  p.tables.exec = Jvm.exec ∧ c.code = cc ∧ c.maxLocals = maxL ∧ meth.sig.returnType = ret ∧ meth.locks = false ∧ s.vm.findClass own = some m.cls ∧ (∀ w ∈ AW, w.before args s = true) ∧ va_K D vwCl (gTY k) s ∧ EV k A s s.heap ∧ meth.name = nm
theorem kMet {y : MethodName} {cc : ByteArray} {maxL : Nat} {ret : Option FieldType} {rm : Room} {av : List Value} {sz : Nat} {Qc : (Nat → Prop) → Array Value → State → Outcome → State → Prop} {mc ms : Nat} {l : Launch} (hy : plainName y.cls = true) (hav : (lg_sl av).length ≤ maxL)
    (body : ∀ p e s m below meth c ls A H, Cx p s m av.toArray meth c cc maxL ret y.cls y.name D k A → va_P D vwCl ws H → va_D A ws → (∀ q : Nat, s.heap.size ≤ q → A q) → va_S A s.heap H [] → lv_has ls maxL (lv_args 0 av) →
      W p l e rm s m av.toArray below meth c H [] 0 0 (MQ below (Qc A) av.toArray s mc ms A) (F0 m 0 ls [])) :
    Met l y (.code y cc maxL ret :: AW) rm (va_Pc av (GG D k ws sz)) (Qc (va_A ws sz)) mc ms (va_A ws sz) := by
  refine Met.ofW (cc := cc) (maxL := maxL) (ret := ret) hy rfl ?_
  intro p e s m args below meth c s₁ B hml hv
  obtain ⟨rfl, hsz, hP, hK, hD0, hE⟩ := hv
  have hts := atoms_spec (ws := .code y cc maxL ret :: AW) B.pre
  subst hsz
  rw [lg_entry_eq]
  exact body p e s m below meth c _ _ _ ⟨B.exec, B.bytes, hml, B.returns, B.notSynchronized, findClass_of_methodNamed B.named, fun w h => hts w (List.mem_cons_of_mem _ h), hK, hE, (name_of_methodNamed B.named B.method).1⟩ hP hD0.self (fun q h => Or.inr h) va_S.rf (lv_entry av hav)
theorem kMetR {y : MethodName} {cc : ByteArray} {maxL : Nat} {ret : Option FieldType} {rm : Room} {av : List Value} {Qc : Array Value → State → Outcome → State → Prop} {mc ms : Nat} {l : Launch} (hy : plainName y.cls = true) (hav : (lg_sl av).length ≤ maxL)
    (body : ∀ p e s m below meth c ls H, Cx p s m av.toArray meth c cc maxL ret y.cls y.name D k (fun _ => False) → va_P D vwCl ws H → va_S (fun _ => False) s.heap H [] → lv_has ls maxL (lv_args 0 av) →
      W p l e rm s m av.toArray below meth c H [] 0 0 (MQ below Qc av.toArray s mc ms (fun _ => False)) (F0 m 0 ls [])) :
    Met l y (.code y cc maxL ret :: AW) rm (va_Pc av (GR D k ws)) Qc mc ms (fun _ => False) := by
  refine Met.ofW (cc := cc) (maxL := maxL) (ret := ret) hy rfl ?_
  intro p e s m args below meth c s₁ B hml hv
  obtain ⟨rfl, hP, hK, hE⟩ := hv
  have hts := atoms_spec (ws := .code y cc maxL ret :: AW) B.pre
  rw [lg_entry_eq]
  exact body p e s m below meth c _ _ ⟨B.exec, B.bytes, hml, B.returns, B.notSynchronized, findClass_of_methodNamed B.named, fun w h => hts w (List.mem_cons_of_mem _ h), hK, hE, (name_of_methodNamed B.named B.method).1⟩ hP va_S.rf (lv_entry av hav)
/-- before a call -/
theorem kPre (hE : EV k A s s.heap) (hK : va_K D vwCl (gTY k) s) (hP : va_P D vwCl ws H) (hD : va_D A ws) (hS : va_S A s.heap H locs) (hA : ∀ q : Nat, s.heap.size ≤ q → A q) (isC : List Nat) (hC : isC.map (fun i => ws[i]?) = wc.map some) (hn : va_nd isC = true) {av : List Value} :
    PreS s H (va_Pc av (GG D k wc H.size)) av :=
  ⟨GG.blind, fun U hU hW => ⟨rfl, by rw [hU], by rw [hU]; exact ka_P hP hC, va_K.moved hW.alike hK, (hD.sub isC hn hC).weaken (fun _ _ _ _ => trivial), hE.call hS (va_free (wc := wc) hD hS hA isC hC) hU hW⟩⟩
theorem kPreR (hE : EV k A s s.heap) (hK : va_K D vwCl (gTY k) s) (hP : va_P D vwCl ws H) (hS : va_S A s.heap H locs) (isC : List Nat) (hC : isC.map (fun i => ws[i]?) = wc.map some) {av : List Value} :
    PreS s H (va_Pc av (GR D k wc)) av :=
  ⟨GR.blind, fun U hU hW => ⟨rfl, by rw [hU]; exact ka_P hP hC, va_K.moved hW.alike hK, hE.call hS (fun _ h => h.elim) hU hW⟩⟩
/-- the receiver is the first of the callee's cells -/
theorem kRecv (hK : va_K D vwCl (gTY k) s) (hP : va_P D vwCl ws H) {q0 ci b : Nat} {q : vw_C} {fs : List Value} (hc : vwCl[ci]? = some q) (he : ws[q0]? = some (b, .inr (ci, fs))) {Pc : Array Value → State → Prop} {As : List Value} (h : PreS s H Pc (.ref b :: As)) : PreV s H q.1 b Pc As :=
  ⟨h.1, va_recv hK hP hc he, h.2⟩
/-- behind a call that writes -/
theorem kcv {S Z : Type} {post : S → Prop} {ex : Z → S → Prop} {wo : Z → S → va_W} {mc ms pc : Nat} {ls : Array Slot} {st0 rest : List Value} {a : Array Value}
    (hr : va_Run p l e R s m args below meth c H locs cells slots mc ms (F0 m pc ls st0) rest (va_Qv post (fun u t => ∃ z, ex z u ∧ GP D (va_A wc H.size) (wo z u) t) (va_A wc H.size) a) (va_A wc H.size))
    (hP : va_P D vwCl ws H) (hD : va_D A ws) (hS : va_S A s.heap H locs) (hA : ∀ q : Nat, s.heap.size ≤ q → A q) (isC isR : List Nat) (hC : isC.map (fun i => ws[i]?) = wc.map some) (hR : isR.map (fun i => ws[i]?) = wr.map some) (hn : va_nd isR = true) (hdis : ∀ i ∈ isR, i ∉ isC)
    (kk : ∀ (z : Z) (u : S) (H1 : Heap) (locs1 : List Loc), post u → ex z u → va_P D vwCl (wr ++ wo z u) H1 → va_D A (wr ++ wo z u) → va_S A s.heap H1 locs1 → W p l e R s m args below meth c H1 locs1 (cells + mc) (slots + ms) Q (F0 m (pc + 3) ls rest)) :
    W p l e R s m args below meth c H locs cells slots Q (F0 m pc ls st0) := by
  have hFc := va_free (wc := wc) hD hS hA isC hC
  refine va_callv hr hS (fun q _ h => hFc q h) hFc (fun u t H1 locs1 ht hvm hw hB hz1 hk1 hS1 => ?_)
  obtain ⟨z, hz, hP1, hD1⟩ := hB
  rw [ht] at hP1
  obtain ⟨hP2, hD2⟩ := va_join (wr := wr) (w1 := wo z u) hP hD isC isR hC hR hn hdis hk1 hFc hP1 hD1
  exact kk z u H1 locs1 hw hz hP2 hD2 hS1
theorem kci {S Z : Type} {post : Int32 → S → Prop} {ex : Z → S → Prop} {wo : Z → S → va_W} {mc ms pc : Nat} {ls : Array Slot} {st0 rest : List Value} {a : Array Value}
    (hr : va_Run p l e R s m args below meth c H locs cells slots mc ms (F0 m pc ls st0) rest (va_Qi post (fun u t => ∃ z, ex z u ∧ GP D (va_A wc H.size) (wo z u) t) (va_A wc H.size) a) (va_A wc H.size))
    (hP : va_P D vwCl ws H) (hD : va_D A ws) (hS : va_S A s.heap H locs) (hA : ∀ q : Nat, s.heap.size ≤ q → A q) (isC isR : List Nat) (hC : isC.map (fun i => ws[i]?) = wc.map some) (hR : isR.map (fun i => ws[i]?) = wr.map some) (hn : va_nd isR = true) (hdis : ∀ i ∈ isR, i ∉ isC)
    (kk : ∀ (r : Int32) (z : Z) (u : S) (H1 : Heap) (locs1 : List Loc), post r u → ex z u → va_P D vwCl (wr ++ wo z u) H1 → va_D A (wr ++ wo z u) → va_S A s.heap H1 locs1 → W p l e R s m args below meth c H1 locs1 (cells + mc) (slots + ms) Q (F0 m (pc + 3) ls (.int r :: rest))) :
    W p l e R s m args below meth c H locs cells slots Q (F0 m pc ls st0) := by
  have hFc := va_free (wc := wc) hD hS hA isC hC
  refine va_calli hr hS (fun q _ h => hFc q h) hFc (fun r u t H1 locs1 ht hvm hw hB hz1 hk1 hS1 => ?_)
  obtain ⟨z, hz, hP1, hD1⟩ := hB
  rw [ht] at hP1
  obtain ⟨hP2, hD2⟩ := va_join (wr := wr) (w1 := wo z u) hP hD isC isR hC hR hn hdis hk1 hFc hP1 hD1
  exact kk r z u H1 locs1 hw hz hP2 hD2 hS1
theorem kcl {S Z : Type} {post : Int64 → S → Prop} {ex : Z → S → Prop} {wo : Z → S → va_W} {mc ms pc : Nat} {ls : Array Slot} {st0 rest : List Value} {a : Array Value}
    (hr : va_Run p l e R s m args below meth c H locs cells slots mc ms (F0 m pc ls st0) rest (va_Ql post (fun u t => ∃ z, ex z u ∧ GP D (va_A wc H.size) (wo z u) t) (va_A wc H.size) a) (va_A wc H.size))
    (hP : va_P D vwCl ws H) (hD : va_D A ws) (hS : va_S A s.heap H locs) (hA : ∀ q : Nat, s.heap.size ≤ q → A q) (isC isR : List Nat) (hC : isC.map (fun i => ws[i]?) = wc.map some) (hR : isR.map (fun i => ws[i]?) = wr.map some) (hn : va_nd isR = true) (hdis : ∀ i ∈ isR, i ∉ isC)
    (kk : ∀ (r : Int64) (z : Z) (u : S) (H1 : Heap) (locs1 : List Loc), post r u → ex z u → va_P D vwCl (wr ++ wo z u) H1 → va_D A (wr ++ wo z u) → va_S A s.heap H1 locs1 → W p l e R s m args below meth c H1 locs1 (cells + mc) (slots + ms) Q (F0 m (pc + 3) ls (.long r :: rest))) :
    W p l e R s m args below meth c H locs cells slots Q (F0 m pc ls st0) := by
  have hFc := va_free (wc := wc) hD hS hA isC hC
  refine va_calll hr hS (fun q _ h => hFc q h) hFc (fun r u t H1 locs1 ht hvm hw hB hz1 hk1 hS1 => ?_)
  obtain ⟨z, hz, hP1, hD1⟩ := hB
  rw [ht] at hP1
  obtain ⟨hP2, hD2⟩ := va_join (wr := wr) (w1 := wo z u) hP hD isC isR hC hR hn hdis hk1 hFc hP1 hD1
  exact kk r z u H1 locs1 hw hz hP2 hD2 hS1
/-- behind a call that only reads: nothing has changed -/
theorem kqi {pr : Int32 → Prop} {mc ms pc : Nat} {ls : Array Slot} {st0 rest : List Value} {a : Array Value}
    (hr : va_Run p l e R s m args below meth c H locs cells slots mc ms (F0 m pc ls st0) rest (va_Qi (fun r (_ : Unit) => pr r) (fun _ _ => True) (fun _ => False) a) (fun _ => False))
    (hP : va_P D vwCl ws H) (hS : va_S A s.heap H locs)
    (kk : ∀ (r : Int32) (H1 : Heap) (locs1 : List Loc), pr r → va_P D vwCl ws H1 → va_S A s.heap H1 locs1 → W p l e R s m args below meth c H1 locs1 (cells + mc) (slots + ms) Q (F0 m (pc + 3) ls (.int r :: rest))) :
    W p l e R s m args below meth c H locs cells slots Q (F0 m pc ls st0) := by
  refine va_calli hr hS (fun q _ h => h.elim) (fun q h => h.elim) (fun r u t H1 locs1 ht hvm hw hB hz1 hk1 hS1 => ?_)
  exact kk r H1 locs1 hw (ka_keep hP (fun q hq => hk1 q hq (fun h => h))) hS1
theorem kql {pr : Int64 → Prop} {mc ms pc : Nat} {ls : Array Slot} {st0 rest : List Value} {a : Array Value}
    (hr : va_Run p l e R s m args below meth c H locs cells slots mc ms (F0 m pc ls st0) rest (va_Ql (fun r (_ : Unit) => pr r) (fun _ _ => True) (fun _ => False) a) (fun _ => False))
    (hP : va_P D vwCl ws H) (hS : va_S A s.heap H locs)
    (kk : ∀ (r : Int64) (H1 : Heap) (locs1 : List Loc), pr r → va_P D vwCl ws H1 → va_S A s.heap H1 locs1 → W p l e R s m args below meth c H1 locs1 (cells + mc) (slots + ms) Q (F0 m (pc + 3) ls (.long r :: rest))) :
    W p l e R s m args below meth c H locs cells slots Q (F0 m pc ls st0) := by
  refine va_calll hr hS (fun q _ h => h.elim) (fun q h => h.elim) (fun r u t H1 locs1 ht hvm hw hB hz1 hk1 hS1 => ?_)
  exact kk r H1 locs1 hw (ka_keep hP (fun q hq => hk1 q hq (fun h => h))) hS1
/-- a reference that is read off -/
theorem kqr {pr : Nat → Prop} {mc ms pc : Nat} {ls : Array Slot} {st0 rest : List Value} {a : Array Value}
    (hr : va_Run p l e R s m args below meth c H locs cells slots mc ms (F0 m pc ls st0) rest (va_Qr (fun (_ : Unit) => True) (fun _ ra _ => pr ra) (fun _ => False) a) (fun _ => False))
    (hP : va_P D vwCl ws H) (hS : va_S A s.heap H locs)
    (kk : ∀ (r : Nat) (H1 : Heap) (locs1 : List Loc), pr r → va_P D vwCl ws H1 → va_S A s.heap H1 locs1 → W p l e R s m args below meth c H1 locs1 (cells + mc) (slots + ms) Q (F0 m (pc + 3) ls (.ref r :: rest))) :
    W p l e R s m args below meth c H locs cells slots Q (F0 m pc ls st0) := by
  refine va_callr hr hS (fun q _ h => h.elim) (fun q h => h.elim) (fun u ra t H1 locs1 ht hvm hw hB hz1 hk1 hS1 => ?_)
  exact kk ra H1 locs1 hB (ka_keep hP (fun q hq => hk1 q hq (fun h => h))) hS1
/-- the ends -/
theorem krv {S Z : Type} {post : S → Prop} {ex : Z → S → Prop} {wo : Z → S → va_W} {cc : ByteArray} {pc mc ms : Nat} {ls : Array Slot} (hx : p.tables.exec = Jvm.exec) (hb : c.code = cc) (hr : meth.sig.returnType = none) (hlk : meth.locks = false)
    (hP : va_P D vwCl ws H) (hD : va_D A ws) (hS : va_S A s.heap H locs) (u : S) (z : Z) (hw : post u) (hz : ex z u) (is : List Nat) (hC : is.map (fun i => ws[i]?) = (wo z u).map some) (hn : va_nd is = true) (hc : cells ≤ mc) (hs : slots ≤ ms) (hdg : decode cc pc = .ok (.return_, 1)) :
    W p l e R s m args below meth c H locs cells slots (MQ below (va_Qv post (fun u t => ∃ z, ex z u ∧ GP D A (wo z u) t) A) args s mc ms A) (F0 m pc ls []) :=
  W.widen hc hs (W.vret hx hb hr (fun t ht _ => ⟨⟨u, rfl, hw, z, hz, by rw [ht]; exact ka_P hP hC, hD.sub is hn hC⟩, hS.F ht⟩) hS.2.2 hdg hlk)
theorem kri {S Z : Type} {post : Int32 → S → Prop} {ex : Z → S → Prop} {wo : Z → S → va_W} {cc : ByteArray} {pc mc ms : Nat} {ls : Array Slot} {v : Int32} (hx : p.tables.exec = Jvm.exec) (hb : c.code = cc) (hr : meth.sig.returnType = some .int) (hlk : meth.locks = false)
    (hP : va_P D vwCl ws H) (hD : va_D A ws) (hS : va_S A s.heap H locs) (u : S) (z : Z) (hw : post v u) (hz : ex z u) (is : List Nat) (hC : is.map (fun i => ws[i]?) = (wo z u).map some) (hn : va_nd is = true) (hc : cells ≤ mc) (hs : slots ≤ ms) (hdg : decode cc pc = .ok (.ireturn, 1)) :
    W p l e R s m args below meth c H locs cells slots (MQ below (va_Qi post (fun u t => ∃ z, ex z u ∧ GP D A (wo z u) t) A) args s mc ms A) (F0 m pc ls [.int v]) :=
  W.widen hc hs (W.iret hx hb hr (fun t ht _ => ⟨⟨v, u, rfl, hw, z, hz, by rw [ht]; exact ka_P hP hC, hD.sub is hn hC⟩, hS.F ht⟩) hS.2.2 hdg hlk)
theorem krl {S Z : Type} {post : Int64 → S → Prop} {ex : Z → S → Prop} {wo : Z → S → va_W} {cc : ByteArray} {pc mc ms : Nat} {ls : Array Slot} {v : Int64} (hx : p.tables.exec = Jvm.exec) (hb : c.code = cc) (hr : meth.sig.returnType = some .long) (hlk : meth.locks = false)
    (hP : va_P D vwCl ws H) (hD : va_D A ws) (hS : va_S A s.heap H locs) (u : S) (z : Z) (hw : post v u) (hz : ex z u) (is : List Nat) (hC : is.map (fun i => ws[i]?) = (wo z u).map some) (hn : va_nd is = true) (hc : cells ≤ mc) (hs : slots ≤ ms) (hdg : decode cc pc = .ok (.lreturn, 1)) :
    W p l e R s m args below meth c H locs cells slots (MQ below (va_Ql post (fun u t => ∃ z, ex z u ∧ GP D A (wo z u) t) A) args s mc ms A) (F0 m pc ls [.long v]) :=
  W.widen hc hs (W.lret hx hb hr (fun t ht _ => ⟨⟨v, u, rfl, hw, z, hz, by rw [ht]; exact ka_P hP hC, hD.sub is hn hC⟩, hS.F ht⟩) hS.2.2 hdg hlk)
theorem koi {pr : Int32 → Prop} {cc : ByteArray} {pc mc ms : Nat} {ls : Array Slot} {v : Int32} (hx : p.tables.exec = Jvm.exec) (hb : c.code = cc) (hr : meth.sig.returnType = some .int) (hlk : meth.locks = false)
    (hS : va_S (fun _ => False) s.heap H locs) (hw : pr v) (hc : cells ≤ mc) (hs : slots ≤ ms) (hdg : decode cc pc = .ok (.ireturn, 1)) :
    W p l e R s m args below meth c H locs cells slots (MQ below (va_Qi (fun r (_ : Unit) => pr r) (fun _ _ => True) (fun _ => False)) args s mc ms (fun _ => False)) (F0 m pc ls [.int v]) :=
  W.widen hc hs (W.iret hx hb hr (fun t ht _ => ⟨⟨v, (), rfl, hw, trivial⟩, hS.F ht⟩) hS.2.2 hdg hlk)
theorem koz {pr : Int32 → Prop} {cc : ByteArray} {pc mc ms : Nat} {ls : Array Slot} {v : Int32} (hx : p.tables.exec = Jvm.exec) (hb : c.code = cc) (hr : meth.sig.returnType = some .boolean) (hlk : meth.locks = false)
    (hS : va_S (fun _ => False) s.heap H locs) (hv : v = 0 ∨ v = 1) (hw : pr v) (hc : cells ≤ mc) (hs : slots ≤ ms) (hdg : decode cc pc = .ok (.ireturn, 1)) :
    W p l e R s m args below meth c H locs cells slots (MQ below (va_Qi (fun r (_ : Unit) => pr r) (fun _ _ => True) (fun _ => False)) args s mc ms (fun _ => False)) (F0 m pc ls [.int v]) :=
  W.widen hc hs (W.zret (ty := .boolean) hx hb hr (by rcases hv with rfl | rfl <;> rfl) (fun t ht _ => ⟨⟨v, (), rfl, hw, trivial⟩, hS.F ht⟩) hS.2.2 hdg hlk)
theorem kor {pr : Nat → Prop} {cc : ByteArray} {pc mc ms : Nat} {ls : Array Slot} {v : Nat} {C : String} (hx : p.tables.exec = Jvm.exec) (hb : c.code = cc) (hr : meth.sig.returnType = some (.object C)) (hlk : meth.locks = false)
    (hS : va_S (fun _ => False) s.heap H locs) (hw : pr v) (hc : cells ≤ mc) (hs : slots ≤ ms) (hdg : decode cc pc = .ok (.areturn, 1)) :
    W p l e R s m args below meth c H locs cells slots (MQ below (va_Qr (fun (_ : Unit) => True) (fun _ ra _ => pr ra) (fun _ => False)) args s mc ms (fun _ => False)) (F0 m pc ls [.ref v]) :=
  W.widen hc hs (W.aret hx hb hr (Or.inl ⟨_, rfl⟩) (Or.inr ⟨_, rfl⟩) (fun t ht _ => ⟨⟨(), v, rfl, trivial, hw⟩, hS.F ht⟩) hS.2.2 hdg hlk)
end KC

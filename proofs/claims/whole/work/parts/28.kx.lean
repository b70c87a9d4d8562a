/-! methods that throw -/
def nms : List String := ["java/lang/RuntimeException", "java/lang/Exception"]
def kXC (xp : String → Prop) (D : va_G) (ws : va_W) (A : Nat → Prop) : String → State → State → Prop := vx_X (fun _ : Unit => True) (fun E _ t => xp E ∧ GP D A ws t) A
section KX
variable {p : Program} {l : Launch} {e : Env} {R : Room} {s : State} {m : MethodId} {args : Array Value} {below : List Frame} {meth : Method} {c : Code} {H : Heap} {locs : List Loc} {cells slots : Nat} {Q : State → Prop}
variable {D : va_G} {k : gK} {A : Nat → Prop} {ws wc wr : va_W}
theorem kxMet {y : MethodName} {cc : ByteArray} {maxL : Nat} {ret : Option FieldType} {rm : Room} {av : List Value} {sz : Nat} {Qc : (Nat → Prop) → Array Value → State → Outcome → State → Prop} {XC : (Nat → Prop) → String → State → State → Prop} {mc ms : Nat} {l : Launch} (hy : plainName y.cls = true) (hav : (lg_sl av).length ≤ maxL)
    (body : ∀ p e s m below meth c ls A H, Cx p s m av.toArray meth c cc maxL ret y.cls y.name D k A → (∀ x ∈ c.exceptionTable.toList, False) → va_P D vwCl ws H → va_D A ws → (∀ q : Nat, s.heap.size ≤ q → A q) → va_S A s.heap H [] → lv_has ls maxL (lv_args 0 av) →
      W p l e rm s m av.toArray below meth c H [] 0 0 (vx_MQ below (Qc A) (XC A) av.toArray s mc ms A) (F0 m 0 ls [])) :
    vx_Met l y (.code y cc maxL ret :: AW) rm (va_Pc av (GG D k ws sz)) (Qc (va_A ws sz)) (XC (va_A ws sz)) mc ms (va_A ws sz) := by
  refine vx_ofW (cc := cc) (maxL := maxL) (ret := ret) hy rfl ?_
  intro p e s m args below meth c s₁ B hml hEx hv
  obtain ⟨rfl, hsz, hP, hK, hD0, hE⟩ := hv
  have hts := atoms_spec (ws := .code y cc maxL ret :: AW) B.pre
  subst hsz
  rw [lg_entry_eq]
  exact body p e s m below meth c _ _ _ ⟨B.exec, B.bytes, hml, B.returns, B.notSynchronized, findClass_of_methodNamed B.named, fun w h => hts w (List.mem_cons_of_mem _ h), hK, hE, (name_of_methodNamed B.named B.method).1⟩ hEx hP hD0.self (fun q h => Or.inr h) va_S.rf (lv_entry av hav)
theorem kxT {xp : String → Prop} {Qc : Array Value → State → Outcome → State → Prop} {cc : ByteArray} {pc ik is ic mc ms : Nat} {cls text : String} {ls : Array Slot} {rest : List Value} (hx : p.tables.exec = Jvm.exec) (hb : c.code = cc) (hl9 : l.stackTraces = false) (hown : s.vm.findClass R_LB = some m.cls) (hlk : meth.locks = false) (hts : ∀ w ∈ AW, w.before args s = true) (hE : EV k A s s.heap) (hS : va_S A s.heap H locs) (hP : va_P D vwCl ws H) (hD : va_D A ws) (hEx : ∀ x ∈ c.exceptionTable.toList, False) (hsize : ls.size = c.maxLocals)
    (w1 : Cond.classLink R_LB ik cls ∈ AW) (w2 : Cond.initialized cls ∈ AW) (hstr : (is, text) ∈ gStr) (xg : ∀ w ∈ (vx_atS R_LB ic cls nms).filter goodWord, w ∈ AW) (xb : ∀ w ∈ (vx_atS R_LB ic cls nms).filter (fun w => !goodWord w), w ∈ NW) (xo : ∀ w ∈ Cond.classLink R_LB ik cls :: Cond.initialized cls :: vx_atS R_LB ic cls nms, vx_ot w = true) (hfit : Bundle.fit cls = true)
    (d0 : decode cc pc = .ok (.new ik, 3)) (d3 : decode cc (pc + 3) = .ok (.dup, 1)) (d4 : decode cc (pc + 4) = .ok (.ldc is, 2)) (d6 : decode cc (pc + 6) = .ok (.invokespecial ic, 3)) (d9 : decode cc (pc + 9) = .ok (.athrow, 1))
    (hRf : 5 < R.frames) (hRl : (rest.map fun v => v.category).sum + 82 ≤ R.locals) (hRc : cells + 1 ≤ R.cells) (hRs : slots + 6 ≤ R.slots) (hc : cells + 1 ≤ mc) (hs : slots + 6 ≤ ms) (hxp : xp cls) :
    W p l e R s m args below meth c H locs cells slots (vx_MQ below Qc (kXC xp D ws A) args s mc ms A) (F0 m pc ls rest) :=
  vx_throwS (own := R_LB) (names := nms) (A := A) hx hb hl9 hown hfit (by decide +kernel) (hts _ w1) (hts _ w2) (hE.str (is, text) hstr) (vx_hat (B := NW) (fun w hw => hts w (xg w hw)) xb (fun w hw => hE.nest w hw)) xo hE.hU hE.hN hS hsize d0 d3 d4 d6 d9 (fun x hx => (hEx x hx).elim) hRf hRl hRc hRs hlk
    (fun t _ hsz hq => ⟨(), trivial, ⟨hxp, ka_keep hP (fun q h => hq q h), hD⟩, Nat.le_trans hS.1 hsz, fun q h1 h2 => (hq q (Nat.lt_of_lt_of_le h1 hS.1)).trans (hS.2.1 q h1 h2)⟩) hS.2.2 hc hs
end KX
set_option maxRecDepth 20000 in
theorem xg_A : ∀ w ∈ (vx_atS R_LB 92 xA nms).filter goodWord, w ∈ AW := by decide +kernel
set_option maxRecDepth 20000 in
theorem xb_A : ∀ w ∈ (vx_atS R_LB 92 xA nms).filter (fun w => !goodWord w), w ∈ NW := by decide +kernel
set_option maxRecDepth 20000 in
theorem xo_A : ∀ w ∈ Cond.classLink R_LB 88 xA :: Cond.initialized xA :: vx_atS R_LB 92 xA nms, vx_ot w = true := by decide +kernel
set_option maxRecDepth 20000 in
theorem xg_S : ∀ w ∈ (vx_atS R_LB 99 xS nms).filter goodWord, w ∈ AW := by decide +kernel
set_option maxRecDepth 20000 in
theorem xb_S : ∀ w ∈ (vx_atS R_LB 99 xS nms).filter (fun w => !goodWord w), w ∈ NW := by decide +kernel
set_option maxRecDepth 20000 in
theorem xo_S : ∀ w ∈ Cond.classLink R_LB 95 xS :: Cond.initialized xS :: vx_atS R_LB 99 xS nms, vx_ot w = true := by decide +kernel
set_option maxRecDepth 20000 in
theorem xg_U : ∀ w ∈ (vx_atS R_LB 109 xU nms).filter goodWord, w ∈ AW := by decide +kernel
set_option maxRecDepth 20000 in
theorem xb_U : ∀ w ∈ (vx_atS R_LB 109 xU nms).filter (fun w => !goodWord w), w ∈ NW := by decide +kernel
set_option maxRecDepth 20000 in
theorem xo_U : ∀ w ∈ Cond.classLink R_LB 105 xU :: Cond.initialized xU :: vx_atS R_LB 109 xU nms, vx_ot w = true := by decide +kernel
set_option maxRecDepth 20000 in
theorem xg_I : ∀ w ∈ (vx_atS R_LB 118 xI nms).filter goodWord, w ∈ AW := by decide +kernel
set_option maxRecDepth 20000 in
theorem xb_I : ∀ w ∈ (vx_atS R_LB 118 xI nms).filter (fun w => !goodWord w), w ∈ NW := by decide +kernel
set_option maxRecDepth 20000 in
theorem xo_I : ∀ w ∈ Cond.classLink R_LB 114 xI :: Cond.initialized xI :: vx_atS R_LB 118 xI nms, vx_ot w = true := by decide +kernel
/-! which of its exceptions a call throws: 0 where it returns, else the law's number -/
def pue (b so u : Int32) : Int32 := if b < 0 then 1 else if b ≤ 255 then (if so = 0 then (if u < 65536 then 0 else 3) else 2) else 1
def ate (x u : Int32) : Int32 := if x = -1 then 0 else if x < 0 then 1 else if x < u then 0 else 1
def cte (x y z : Int32) : Int32 := if isc x = 0 then 1 else if y < 0 then 1 else if y < 47 then (if z = 0 then 0 else if z = 1 then 0 else 1) else 1
def ste (x : Int32) : Int32 := if isc x = 0 then 1 else 0
def ope (so : Int32) : Int32 := if so = 0 then 0 else 1
def wre (so sr x nn u : Int32) : Int32 := if so = 0 then 1 else if fts x sr = 0 then 2 else if nn < 1 then 2 else if nn ≤ 64 then (if u ≤ 65000 then 0 else 3) else 2
def ene (so : Int32) : Int32 := if so = 0 then 1 else 0
def cle (so y : Int32) : Int32 := if so = 0 then 1 else if y = 0 then 0 else if y = 1 then 0 else 2
def rde (so x nn u : Int32) : Int32 := if so = 0 then (if x < 0 then 2 else if u < x then 2 else if nn < 0 then 2 else if nn ≤ u - x then 0 else 2) else 1
def bte (dr dw x nn : Int32) : Int32 := if dr = 0 then 1 else if fts x dw = 0 then 2 else if nn < 1 then 2 else if nn ≤ 64 then 0 else 2
def ats (L : List Int32) (x u : Int32) : Int32 := if x = -1 then u else rb L x
def cl0 (sr a lo sz rm rw : Int32) (n : Nat) (L : List Int32) (y : Int32) : Int32 × Int32 × Int32 × Nat × List Int32 :=
  if sr = 0 then (if y = 0 then ((ew0 a lo sz rm n L).1, (ew0 a lo sz rm n L).2.1, rw, (ew0 a lo sz rm n L).2.2.1, sgd (ew0 a lo sz rm n L).2.2.2 a) else ((ew1 12 a (12 - rm) lo rm n L).1, (ew1 12 a (12 - rm) lo rm n L).2.1, rw, (ew1 12 a (12 - rm) lo rm n L).2.2.1, sgd (ew1 12 a (12 - rm) lo rm n L).2.2.2 a)) else (lo, rm, (rwe rw.toNatClampNeg a 0 rw n L).1, (rwe rw.toNatClampNeg a 0 rw n L).2.1, sgd (rwe rw.toNatClampNeg a 0 rw n L).2.2 a)
theorem ew0_le (a lo sz rm : Int32) (n : Nat) (L : List Int32) : n ≤ (ew0 a lo sz rm n L).2.2.1 := Nat.le_trans (fb_le _ _ _ _ _) (fb_le _ _ _ _ _)

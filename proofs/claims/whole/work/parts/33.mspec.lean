/-! what the reference's methods compute, as its code says it; L: its bytes -/
def mth (a b c : Int32) : Int32 := if a = 0 then (if b = 0 then (if c = 0 then 0 else 3) else 2) else 1
def mtb (a b c : Int32) : Int32 := if mth a b c ≤ 0 then 0 else 1
theorem mtb_01 (a b c : Int32) : mtb a b c = 0 ∨ mtb a b c = 1 := by
  unfold mtb
  split
  · exact Or.inl rfl
  · exact Or.inr rfl
def mot (v x y : Int32) : Int32 := if v < x then 1 else if v ≤ y then 0 else 1
theorem mot_01 (v x y : Int32) : mot v x y = 0 ∨ mot v x y = 1 := by
  unfold mot
  split
  · exact Or.inr rfl
  · split
    · exact Or.inl rfl
    · exact Or.inr rfl
def nxo (s : Int32) : Int32 := if s = 5 then 38 else if s = 13 then 29 else if s = 45 then s else if s = 46 then s else s + 1
def mch (S K O : Nat → Int32) (x i : Int32) : (Nat → Int32) × (Nat → Int32) :=
  (upd S x.toNatClampNeg (if i = 0 then O (S x.toNatClampNeg).toNatClampNeg else nxo (S x.toNatClampNeg)), if i = 0 then (if S x.toNatClampNeg = 0 then upd K x.toNatClampNeg (1 - K x.toNatClampNeg) else if S x.toNatClampNeg = 6 then upd K x.toNatClampNeg (1 - K x.toNatClampNeg) else if S x.toNatClampNeg = 14 then upd K x.toNatClampNeg (1 - K x.toNatClampNeg) else K) else K)
def mhl (sz bg : Int32) : Int32 := if sz ≤ bg then 0 else 1
theorem mhl_01 (a b : Int32) : mhl a b = 0 ∨ mhl a b = 1 := by
  unfold mhl
  split
  · exact Or.inl rfl
  · exact Or.inr rfl
def mlast (L : List Int32) : Int32 := rb L (nI L.length - 1)
def mtk (L : List Int32) (bg : Int32) : Int32 := if nI L.length ≤ bg then 0 else if (255 : Int32) ≤ mlast L then 0 else 1
theorem mtk_01 (L : List Int32) (b : Int32) : mtk L b = 0 ∨ mtk L b = 1 := by
  unfold mtk
  split
  · exact Or.inl rfl
  · split
    · exact Or.inl rfl
    · exact Or.inr rfl
def mcy (cd rm : Int32) : Int32 := if cd = 0 then 0 else 1 <<< ((27 - rm) &&& 31)
def mkc (L : List Int32) (bg rm x : Int32) : Int32 := if mtk L bg = 0 then 0 else if x < 1 <<< ((27 - rm) &&& 31) then 0 else 1
def mb3 (lo rm : Int32) (L : List Int32) : Int32 × Int32 × List Int32 := (lo &&& ((1 <<< ((27 - rm) &&& 31)) - 1), rm, L ++ [(lo >>> ((27 - rm) &&& 31)) &&& 255])
def mb2 (bg lo : Int32) (L : List Int32) : Int32 × Int32 × List Int32 := if nI L.length ≤ bg then mb3 lo 8 L else if mlast L = 255 then mb3 lo 7 L else mb3 lo 8 L
def mbo (bg lo cd : Int32) (L : List Int32) : Int32 × Int32 × List Int32 := if cd = 0 then mb2 bg lo L else mb2 bg lo (rs L (nI L.length - 1) (mlast L + 1))
section MR
variable {f : Nat → Int32} {u bg x b : Int32} {L : List Int32}
theorem nI_64K : nI 65536 = 65536 := rfl
theorem m_last (h : row_ok 65536 f u L) (hb : ¬ bg < 0) (c : ¬ u ≤ bg) : ¬ u - 1 < 0 ∧ ¬ u ≤ u - 1 ∧ ¬ nI 65536 ≤ u - 1 := by
  have hl := row_len h
  obtain ⟨j, hj, rfl⟩ := nI_of hb
  have hu := h.1
  subst hu
  have h1 : j < L.length := by
    rcases Nat.lt_or_ge j L.length with q | q
    · exact q
    · exact absurd (nI_le q hj) c
  obtain ⟨q, hq⟩ : ∃ q, L.length = q + 1 := ⟨L.length - 1, by omega⟩
  rw [hq, nI_pred q]
  exact ⟨nI_pos (by omega), nI_ge (by omega) (by omega), nI_ge (by omega) (by decide)⟩
theorem m_lin (h : row_ok 65536 f u L) (hb : ¬ bg < 0) (c : ¬ u ≤ bg) : vp_in (u - 1) 65536 := ix_in (by decide) (m_last h hb c).1 (m_last h hb c).2.2
theorem m_lv (h : row_ok 65536 f u L) (hb : ¬ bg < 0) (c : ¬ u ≤ bg) : f (u - 1).toNatClampNeg = mlast L := by
  rw [mlast, ← h.1]; exact rb_in h (m_last h hb c).1 (m_last h hb c).2.1
theorem m_set (h : row_ok 65536 f u L) (hb : ¬ bg < 0) (c : ¬ u ≤ bg) : row_ok 65536 (upd f (u - 1).toNatClampNeg b) u (rs L (nI L.length - 1) b) := by
  rw [← h.1]; exact rs_ok h (m_last h hb c).1
theorem m_sin (h : row_ok 65536 f u L) (hl : L.length < 65536) : ¬ nI 65536 ≤ u := by
  rw [h.1]; exact nI_ge hl (by decide)
theorem m_stin (h : row_ok 65536 f u L) (hl : L.length < 65536) : vp_in u 65536 := ix_in (by decide) (row_neg h) (m_sin h hl)
theorem m_app (h : row_ok 65536 f u L) (hl : L.length < 65536) : row_ok 65536 (upd f u.toNatClampNeg b) (u + 1) (L ++ [b]) := by
  have h1 := app_ok (b := b) h (m_sin h hl)
  rwa [app, if_pos hl] at h1
theorem rs_len (x b : Int32) : (rs L x b).length = L.length := by
  rw [rs]
  split
  · rfl
  · exact List.length_set
end MR
section KZ
variable {p : Program} {l : Launch} {e : Env} {R : Room} {s : State} {m : MethodId} {args : Array Value} {below : List Frame} {meth : Method} {c : Code} {H : Heap} {locs : List Loc} {cells slots : Nat} {D : va_G} {A : Nat → Prop} {ws : va_W}
theorem krz {S Z : Type} {post : Int32 → S → Prop} {ex : Z → S → Prop} {wo : Z → S → va_W} {cc : ByteArray} {pc mc ms : Nat} {ls : Array Slot} {v : Int32} (hx : p.tables.exec = Jvm.exec) (hb : c.code = cc) (hr : meth.sig.returnType = some .boolean) (hlk : meth.locks = false) (hv : v = 0 ∨ v = 1)
    (hP : va_P D vwCl ws H) (hD : va_D A ws) (hS : va_S A s.heap H locs) (u : S) (z : Z) (hw : post v u) (hz : ex z u) (is : List Nat) (hC : is.map (fun i => ws[i]?) = (wo z u).map some) (hn : va_nd is = true) (hc : cells ≤ mc) (hs : slots ≤ ms) (hdg : decode cc pc = .ok (.ireturn, 1)) :
    W p l e R s m args below meth c H locs cells slots (MQ below (va_Qi post (fun u t => ∃ z, ex z u ∧ GP D A (wo z u) t) A) args s mc ms A) (F0 m pc ls [.int v]) :=
  W.widen hc hs (W.zret (ty := .boolean) hx hb hr (by rcases hv with rfl | rfl <;> rfl) (fun t ht _ => ⟨⟨v, u, rfl, hw, z, hz, by rw [ht]; exact ka_P hP hC, hD.sub is hn hC⟩, hS.F ht⟩) hS.2.2 hdg hlk)
end KZ

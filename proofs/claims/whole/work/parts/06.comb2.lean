section KD
variable {p : Program} {l : Launch} {e : Env} {R : Room} {s : State} {m : MethodId} {args : Array Value} {below : List Frame} {meth : Method} {c : Code} {H : Heap} {locs : List Loc} {cells slots : Nat} {Q : State → Prop}
variable {D : va_G} {k : gK} {A : Nat → Prop} {ws wc wr : va_W}
theorem kca {S Z : Type} {post : S → Prop} {ex : Z → S → Prop} {wo : Z → S → Nat → va_W} {mc ms pc : Nat} {ls : Array Slot} {st0 rest : List Value} {a : Array Value}
    (hr : va_Run p l e R s m args below meth c H locs cells slots mc ms (F0 m pc ls st0) rest (va_Qr post (fun u ra t => ∃ z, ex z u ∧ GP D (va_A wc H.size) (wo z u ra) t) (va_A wc H.size) a) (va_A wc H.size))
    (hP : va_P D vwCl ws H) (hD : va_D A ws) (hS : va_S A s.heap H locs) (hA : ∀ q : Nat, s.heap.size ≤ q → A q) (isC isR : List Nat) (hC : isC.map (fun i => ws[i]?) = wc.map some) (hR : isR.map (fun i => ws[i]?) = wr.map some) (hn : va_nd isR = true) (hdis : ∀ i ∈ isR, i ∉ isC)
    (kk : ∀ (ra : Nat) (z : Z) (u : S) (H1 : Heap) (locs1 : List Loc), post u → ex z u → va_P D vwCl (wr ++ wo z u ra) H1 → va_D A (wr ++ wo z u ra) → va_S A s.heap H1 locs1 → W p l e R s m args below meth c H1 locs1 (cells + mc) (slots + ms) Q (F0 m (pc + 3) ls (.ref ra :: rest))) :
    W p l e R s m args below meth c H locs cells slots Q (F0 m pc ls st0) := by
  have hFc := va_free (wc := wc) hD hS hA isC hC
  refine va_callr hr hS (fun q _ h => hFc q h) hFc (fun u ra t H1 locs1 ht hvm hw hB hz1 hk1 hS1 => ?_)
  obtain ⟨z, hz, hP1, hD1⟩ := hB
  rw [ht] at hP1
  obtain ⟨hP2, hD2⟩ := va_join (wr := wr) (w1 := wo z u ra) hP hD isC isR hC hR hn hdis hk1 hFc hP1 hD1
  exact kk ra z u H1 locs1 hw hz hP2 hD2 hS1
theorem kra {S Z : Type} {post : S → Prop} {ex : Z → S → Prop} {wo : Z → S → Nat → va_W} {cc : ByteArray} {pc mc ms : Nat} {ls : Array Slot} {v : Nat} {rt : FieldType} (hx : p.tables.exec = Jvm.exec) (hb : c.code = cc) (hr : meth.sig.returnType = some rt) (hrt : (∃ n, rt = .object n) ∨ ∃ t, rt = .array t) (hlk : meth.locks = false)
    (hP : va_P D vwCl ws H) (hD : va_D A ws) (hS : va_S A s.heap H locs) (u : S) (z : Z) (hw : post u) (hz : ex z u) (is : List Nat) (hC : is.map (fun i => ws[i]?) = (wo z u v).map some) (hn : va_nd is = true) (hc : cells ≤ mc) (hs : slots ≤ ms) (hdg : decode cc pc = .ok (.areturn, 1)) :
    W p l e R s m args below meth c H locs cells slots (MQ below (va_Qr post (fun u ra t => ∃ z, ex z u ∧ GP D A (wo z u ra) t) A) args s mc ms A) (F0 m pc ls [.ref v]) :=
  W.widen hc hs (W.aret hx hb hr hrt (Or.inr ⟨_, rfl⟩) (fun t ht _ => ⟨⟨u, v, rfl, hw, z, hz, by rw [ht]; exact ka_P hP hC, hD.sub is hn hC⟩, hS.F ht⟩) hS.2.2 hdg hlk)
end KD
section RW2
variable {n : Nat} {f : Nat → Int32} {u : Int32} {L : List Int32} {x b : Int32}
theorem apn_lt (h : row_ok n f u L) (c : u < nI n) : n = apn n L := by
  have hl := row_len h
  have hn := row_le h
  rw [h.1] at c
  rw [apn, if_pos ((nI_ltI (by omega) (by omega)).mp c)]
theorem apn_ge (h : row_ok n f u L) (c : ¬ u < nI n) : ¬ L.length < n := by
  have hl := row_len h
  have hn := row_le h
  rw [h.1] at c
  exact fun q => c (nI_lt q (by omega))
theorem apn_full (h : row_ok n f u L) (c : ¬ u < nI n) (c2 : (65536 : Int32) ≤ nI n) : n = apn n L := by
  have hn := row_le h
  rw [apn, if_neg (apn_ge h c), if_pos ((nI_leI (a := 65536) (by omega) (by omega)).mp c2)]
theorem apn_grow (h : row_ok n f u L) (c : ¬ u < nI n) (c2 : ¬ (65536 : Int32) ≤ nI n) : 2 * n = apn n L ∧ ¬ 65536 ≤ n ∧ 2 * n ≤ 65536 := by
  have hn := row_le h
  have h3 : ¬ 65536 ≤ n := fun q => c2 (nI_le (a := 65536) q (by omega))
  obtain ⟨j, hj⟩ := row_half h h3
  have h1 : 1 ≤ 2 ^ j := Nat.one_le_two_pow
  refine ⟨by rw [apn, if_neg (apn_ge h c), if_neg h3], h3, ?_⟩
  calc 2 * n = (2 * n) * 1 := (Nat.mul_one _).symm
    _ ≤ (2 * n) * 2 ^ j := Nat.mul_le_mul_left _ h1
    _ = 65536 := hj
theorem app_full (h : row_ok n f u L) (c : ¬ u < nI n) (c2 : (65536 : Int32) ≤ nI n) : L = app L b := by
  have hn := row_le h
  have h1 := apn_ge h c
  have h2 : 65536 ≤ n := (nI_leI (a := 65536) (by omega) (by omega)).mp c2
  rw [app, if_neg (by omega)]
theorem two_nI (n : Nat) : (2 : Int32) * nI n = nI (2 * n) := pk_mul 2 n
theorem min_grow (h : 2 * n ≤ 65536) : (if (2 : Int32) * nI n < 65536 then (2 : Int32) * nI n else 65536) = nI (2 * n) := by
  rw [two_nI]
  split
  · rfl
  · rename_i h2
    have : ¬ 2 * n < 65536 := fun q => h2 (nI_lt (b := 65536) q (by omega))
    have e : 2 * n = 65536 := by omega
    rw [e]; rfl
theorem lt_le32 {a b : Int32} (h : a < b) (h2 : b ≤ a) : False := by
  have h1 := Int32.lt_iff_toInt_lt.mp h
  have h3 := Int32.le_iff_toInt_le.mp h2
  omega
theorem wide_in (h : row_ok n f u L) (hn : ¬ 65536 ≤ n) (c : nI (2 * n) ≤ u) : False := by
  have hl := row_len h
  have h2 := h.2.1
  have h3 := h.2.2.1
  rw [h.1] at c
  have := (nI_leI (by omega) (by omega)).mp c
  omega
end RW2

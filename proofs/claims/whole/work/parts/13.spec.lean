/-! what the class's methods compute, as its code says it -/
def ent (n : Nat) (f : Nat → Int32) (x : Int32) : Int32 := if x < 0 then 0 else if nI n ≤ x then 0 else f x.toNatClampNeg
theorem nI_19 : nI 19 = 19 := rfl
theorem nI_47 : nI 47 = 47 := rfl
def tfP : Nat → Int32 := fun j => tabP.getD j 0
def tfN : Nat → Int32 := fun j => tabN.getD j 0
def tfO : Nat → Int32 := fun j => tabO.getD j 0
def prt (sf : Nat → Int32) (x : Int32) : Int32 := ent 47 tfP (ent 19 sf x)
def trn (x : Int32) : Int32 := if x = 0 then 1 else if x = 6 then 1 else if x = 14 then 1 else 0
theorem trn_01 (x : Int32) : trn x = 0 ∨ trn x = 1 := by
  unfold trn
  split
  · exact Or.inr rfl
  · split
    · exact Or.inr rfl
    · split
      · exact Or.inr rfl
      · exact Or.inl rfl
def cset (sf lf : Nat → Int32) (x y z : Int32) : (Nat → Int32) × (Nat → Int32) := if x < 0 then (sf, lf) else if (19 : Int32) ≤ x then (sf, lf) else (upd sf x.toNatClampNeg y, upd lf x.toNatClampNeg z)
def cLk (sf lf : Nat → Int32) (x : Int32) : (Nat → Int32) × (Nat → Int32) := cset sf lf x (ent 47 tfN (ent 19 sf x)) (ent 19 lf x)
def cOt (sf lf : Nat → Int32) (x : Int32) : (Nat → Int32) × (Nat → Int32) := cset sf lf x (ent 47 tfO (ent 19 sf x)) (if trn (ent 19 sf x) = 0 then ent 19 lf x else 1 - ent 19 lf x)
def sgl (L : List Int32) (a : Int32) : Int32 := if nI L.length - a ≤ 0 then -1 else rb L (nI L.length - 1)
def sgc (L : List Int32) (a b : Int32) : List Int32 := if nI L.length - a ≤ 0 then L else rs L (nI L.length - 1) b
def sgd (L : List Int32) (a : Int32) : List Int32 := if sgl L a = 255 then L.dropLast else L

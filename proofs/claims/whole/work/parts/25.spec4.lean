def isc (x : Int32) : Int32 := if x < 0 then 0 else if (19 : Int32) ≤ x then 0 else 1
theorem isc_01 (x : Int32) : isc x = 0 ∨ isc x = 1 := by
  unfold isc
  split
  · exact Or.inl rfl
  · split
    · exact Or.inl rfl
    · exact Or.inr rfl
def fts (x y : Int32) : Int32 := if y = 0 then isc x else if x = -1 then 1 else 0
theorem fts_01 (x y : Int32) : fts x y = 0 ∨ fts x y = 1 := by
  unfold fts
  split
  · exact isc_01 x
  · split
    · exact Or.inr rfl
    · exact Or.inl rfl
def rmo (sr rm rw : Int32) : Int32 := if sr = 0 then rm else rw
def rgs (x so sr dr dw lo sz rm rw cm sy : Int32) : Int32 :=
  if x = 0 then (if so = 0 then -1 else if sr = 0 then lo else -1) else if x = 1 then (if so = 0 then -1 else if sr = 0 then sz else -1) else if x = 2 then (if so = 0 then -1 else rmo sr rm rw) else if x = 3 then (if dr = 0 then -1 else cm) else if x = 4 then (if dr = 0 then -1 else if dw = 0 then sy else -1) else -1

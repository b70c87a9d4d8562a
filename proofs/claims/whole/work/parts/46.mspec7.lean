theorem m_65k {f : Nat → Int32} {u : Int32} {L : List Int32} (h : row_ok 65536 f u L) (c : u ≤ 65000) : L.length ≤ 65000 := by
  have hl := row_len h
  rw [h.1] at c
  exact (nI_leI (b := 65000) (by omega) (by decide)).mp c
theorem mwv_c {rw bg cd wd rm lo x b : Int32} {S K : Nat → Int32} {L : List Int32} (h : mwv rw bg cd wd rm S L) (h0 : rw = 0) (hx : vp_in x 38) :
    mwv rw bg (mwc S K bg lo cd wd rm L x b).2.1 (mwc S K bg lo cd wd rm L x b).2.2.1 (mwc S K bg lo cd wd rm L x b).2.2.2.1 (mwc S K bg lo cd wd rm L x b).2.2.2.2.1 (mwc S K bg lo cd wd rm L x b).2.2.2.2.2.2 ∧ (mwc S K bg lo cd wd rm L x b).2.2.2.2.2.2.length ≤ L.length + 3 := by
  have hh := h.2.1 h0
  have hg := mwc_ok (K := K) (lo := lo) (b := b) h.1 hx hh.1 hh.2.1 hh.2.2
  exact ⟨⟨hg.1, fun _ => ⟨hg.2.1, hg.2.2.1, hg.2.2.2.1⟩, fun q => absurd h0 q⟩, hg.2.2.2.2.2⟩
theorem mwv_r {rw bg cd wd rm b : Int32} {S : Nat → Int32} {L : List Int32} (h : mwv rw bg cd wd rm S L) (h0 : ¬ rw = 0) :
    mwv rw bg cd wd (mrw bg rm L b).1 S (mrw bg rm L b).2 ∧ (mrw bg rm L b).2.length ≤ L.length + 3 := by
  have hh := h.2.2 h0
  have hg := mrw_ok (bg := bg) (b := b) hh.1 hh.2
  exact ⟨⟨h.1, fun q => absurd q h0, fun _ => ⟨hg.1, Or.inr hg.2.1⟩⟩, by have := hg.2.2.2; omega⟩

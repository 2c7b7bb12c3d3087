/-! text of the reference -/
theorem wd_n0 {by1 : Nat → Int32} {L : Nat} {t : TS} (h : t.2.2.1 = 0) (i : Nat) : ¬ wdP by1 L t i := fun q => absurd (q.1.symm.trans h) (by decide)
theorem it_n0 {by1 : Nat → Int32} {L : Nat} {t : TS} {w : Nat → Int32} (h : t.2.2.1 = 0) : itF by1 L t w = (false, t, w) := by
  rcases it_cs by1 L t w with ⟨a, ha, e, -⟩ | ⟨-, e⟩
  · rw [kh_cs, if_neg (wd_n0 h 6), if_neg (wd_n0 h 0), if_neg (wd_n0 h 1), if_neg (wd_n0 h 2), if_neg (wd_n0 h 3), if_neg (wd_n0 h 4), if_neg (wd_n0 h 5)] at e
    exact absurd (show nI a < 0 by rw [← e]; decide) (nI_pos (by omega))
  · rw [e, stR, if_neg (wd_n0 h 11), if_neg (wd_n0 h 12), if_neg (wd_n0 h 13), itS, if_neg (wd_n0 h 14), if_neg (wd_n0 h 15), if_neg (wd_n0 h 16), if_neg (wd_n0 h 17)]
/-- what the end makes of the last item -/
def enF (i : Nat) (s : RES) : Int32 × (Nat → Int32) := if s.1 = true then (if s.2.1.2.2.1 = 0 then (nI i, s.2.2) else (-1 - nI s.2.1.1, s.2.2)) else (-1 - nI s.2.1.1, s.2.2)
theorem m1_neg {a : Nat} (h : a < 1000) : -1 - nI a < 0 := (show ∀ a, a < 1000 → -1 - nI a < 0 by decide +kernel) a h
def txB (σ : Sg) (L : Nat) : Int32 × (Nat → Int32) := txN (σ 71) L 120 1 (tkF (σ 71) L 0) (σ 66)


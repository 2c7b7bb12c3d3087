/-! a good item lies further on -/
theorem nx_le {by1 : Nat → Int32} {L : Nat} {t : TS} (h : t.2.1 ≤ L) : t.2.1 ≤ (nx by1 L t).2.1 ∧ (nx by1 L t).2.1 ≤ L := by
  have q := tkF_le (by1 := by1) (L := L) (b := t.2.1) h
  exact ⟨Nat.le_trans q.1 q.2.1, q.2.2⟩
theorem tkF_gt {by1 : Nat → Int32} {L b : Nat} (hb : b ≤ L) (h : ¬ (tkF by1 L b).2.2.1 = 0) : b < (tkF by1 L b).2.1 := by
  have hS := skN_le by1 (L - b) b
  have hk : ¬ tkO (bA by1 L (sk by1 L b)) = 0 := h
  have hlt : sk by1 L b < L := by
    rcases Nat.lt_or_ge (sk by1 L b) L with q | q
    · exact q
    · exact absurd (by unfold bA; rw [if_neg (by omega)]; exact tk_m1) hk
  have hf : ∃ n, fuelT L (tkO (bA by1 L (sk by1 L b))) (sk by1 L b) = n + 1 := by
    unfold fuelT
    split
    · exact ⟨L - sk by1 L b - 1, by omega⟩
    · exact ⟨0, by rw [if_pos (by omega)]⟩
  obtain ⟨n, hn⟩ := hf
  have hle := scN_le by1 (tkO (bA by1 L (sk by1 L b))) n (sk by1 L b + 1)
  show b < (scN by1 (tkO (bA by1 L (sk by1 L b))) (fuelT L (tkO (bA by1 L (sk by1 L b))) (sk by1 L b)) (sk by1 L b) 0).1
  rw [hn, scN, if_pos (by unfold bA; rw [if_pos hlt])]
  have := (hle (if tkO (bA by1 L (sk by1 L b)) = 2 then vS 0 (by1 (sk by1 L b)) else 0)).1
  have hb2 : b ≤ sk by1 L b := hS.1
  omega
def Rc (by1 : Nat → Int32) (L : Nat) (t t' : TS) : Prop := ∃ s : TS, t.2.1 ≤ s.2.1 ∧ s.2.1 ≤ L ∧ t' = nx by1 L s
theorem Rc.one {by1 : Nat → Int32} {L : Nat} {t : TS} (h : t.2.1 ≤ L) : Rc by1 L t (nx by1 L t) := ⟨t, Nat.le_refl _, h, rfl⟩
theorem Rc.le {by1 : Nat → Int32} {L : Nat} {t t' : TS} (h : Rc by1 L t t') : t.2.1 ≤ t'.2.1 ∧ t'.2.1 ≤ L := by
  obtain ⟨s, h1, h2, rfl⟩ := h
  have q := nx_le (by1 := by1) h2
  exact ⟨Nat.le_trans h1 q.1, q.2⟩
theorem Rc.nx {by1 : Nat → Int32} {L : Nat} {t t' : TS} (h : Rc by1 L t t') : Rc by1 L t (_root_.Jvm.Pilot.@@N@@.nx by1 L t') := ⟨t', h.le.1, h.le.2, rfl⟩
theorem Rc.gt {by1 : Nat → Int32} {L : Nat} {t t' : TS} (h : Rc by1 L t t') (h0 : ¬ t'.2.2.1 = 0) : t.2.1 < t'.2.1 := by
  obtain ⟨s, h1, h2, rfl⟩ := h
  exact Nat.lt_of_le_of_lt h1 (tkF_gt h2 h0)
theorem mk_rc {by1 : Nat → Int32} {L i u f g : Nat} {t T : TS} {w : Nat → Int32} (h : Rc by1 L t T) : Rc by1 L t (mkF by1 L i u f g T w).2.1 := by
  unfold mkF
  split
  · split
    · exact h.nx.nx
    · exact h.nx
  · exact h
theorem bn_rc {by1 : Nat → Int32} {L : Nat} {t : TS} {r : RES} {k : TS → (Nat → Int32) → RES} (h : Rc by1 L t r.2.1) (hk : ∀ T w, Rc by1 L t T → Rc by1 L t (k T w).2.1) : Rc by1 L t (bnR r k).2.1 := by
  unfold bnR
  split
  · exact hk _ _ h
  · exact h
theorem um_rc {by1 : Nat → Int32} {L n : Nat} {t T : TS} {w : Nat → Int32} (h : Rc by1 L t T) : Rc by1 L t (umC by1 L n T w).2.1 := by
  unfold umC
  exact bn_rc (mk_rc h) (fun T w h => bn_rc (mk_rc h) (fun T w h => bn_rc (mk_rc h) (fun T w h => mk_rc h)))
theorem it_rc {by1 : Nat → Int32} {L : Nat} {t : TS} {w : Nat → Int32} (hL : t.2.1 ≤ L) (h : (itF by1 L t w).1 = true) : Rc by1 L t (itF by1 L t w).2.1 := by
  have o := Rc.one (by1 := by1) hL
  have wn : ∀ c, Rc by1 L t (wnF by1 L c t w).2.1 := fun c => by
    unfold wnF
    split
    · split
      · exact o.nx.nx
      · exact o.nx
    · exact o
  have rf : ∀ v, Rc by1 L t (rfF by1 L v t w).2.1 := fun v => by
    unfold rfF
    split
    · exact o.nx
    · exact o
  have we : ∀ k, Rc by1 L t (weF by1 L k t w).2.1 := fun k => by
    unfold weF
    split
    · exact o.nx
    · exact o
  rcases it_cs by1 L t w with ⟨a, ha, -, e⟩ | ⟨-, e⟩
  · rw [e] at h ⊢
    unfold umF at h ⊢
    split at h
    · cases h
    · rename_i q
      rw [if_neg q]
      exact um_rc o
  · rw [e] at h ⊢
    unfold stR at h ⊢
    split
    · exact wn 0
    split
    · exact wn 1
    split
    · exact wn 2
    rename_i q1 q2 q3
    rw [if_neg q1, if_neg q2, if_neg q3] at h
    unfold itS at h ⊢
    split
    · exact rf 1
    split
    · exact rf 0
    split
    · exact we 0
    split
    · exact we 1
    rename_i p1 p2 p3 p4
    rw [if_neg p1, if_neg p2, if_neg p3, if_neg p4] at h
    cases h
theorem it_gt {by1 : Nat → Int32} {L : Nat} {t : TS} {w : Nat → Int32} (hL : t.2.1 ≤ L) (h : (itF by1 L t w).1 = true) (h3 : (itF by1 L t w).2.1.2.2.1 = 3) : t.2.1 < (itF by1 L t w).2.1.2.1 := (it_rc hL h).gt (by rw [h3]; decide)

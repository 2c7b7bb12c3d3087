/-! an item, as the reference takes it -/
theorem fd_rg {P : Nat → Prop} {dp : ∀ a, Decidable (P a)} : ∀ n a b, fdN P dp n a = some b → a ≤ b ∧ b < a + n
  | 0, a, b, h => by cases h
  | n + 1, a, b, h => by
    rw [fdN] at h
    split at h
    · cases h; omega
    · have := fd_rg n (a + 1) b h; omega
theorem it_cs (by1 : Nat → Int32) (L : Nat) (t : TS) (w : Nat → Int32) : (∃ a, a < 7 ∧ khR by1 L t = nI a ∧ itF by1 L t w = umF by1 L a t w) ∨ (khR by1 L t = -1 ∧ itF by1 L t w = stR by1 L t w) := by
  cases h : fdN (fun a => wdP by1 L t (kS a)) (fun _ => inferInstance) 7 0 with
  | some a => exact Or.inl ⟨a, by have := fd_rg 7 0 a h; omega, by unfold khR; rw [h], it_k h⟩
  | none =>
    refine Or.inr ⟨by unfold khR; rw [h], ?_⟩
    unfold stR
    by_cases h1 : wdP by1 L t 11
    · rw [if_pos h1]; exact it_f h (by rw [fdN, if_pos h1])
    rw [if_neg h1]
    by_cases h2 : wdP by1 L t 12
    · rw [if_pos h2]; exact it_f h (by rw [fdN, if_neg h1, fdN, if_pos h2])
    rw [if_neg h2]
    by_cases h3 : wdP by1 L t 13
    · rw [if_pos h3]; exact it_f h (by rw [fdN, if_neg h1, fdN, if_neg h2, fdN, if_pos h3])
    rw [if_neg h3]
    exact it_s h (by rw [fdN, if_neg h1, fdN, if_neg h2, fdN, if_neg h3, fdN])

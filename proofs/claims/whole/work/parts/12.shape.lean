/-! the cells: InsideOut and all that it makes (0 to 64), the reference (65 to 74) -/
abbrev nu : Option (Option Nat) := none
abbrev rf (j : Nat) : Option (Option Nat) := some (some j)
abbrev ia (n : Nat) : Sh := .inr (.inl n)
abbrev shStreet (S : Nat) : List Sh := [.inl (2, [rf (S + 1), rf (S + 2), rf (S + 3), nu, nu, nu]), ia 16, ia 16, ia 16]
abbrev shUmb : Sh := .inl (4, [nu, nu, nu, nu, nu, nu, nu, nu])
abbrev shWorld (w : Nat) : List Sh := [.inl (6, [rf (w + 1), rf (w + 5), nu, rf (w + 6), nu])] ++ shStreet (w + 1) ++ [.inr (.inr (2, [some (w + 7), some (w + 8), some (w + 9), some (w + 10), some (w + 11), some (w + 12), some (w + 13), some (w + 14)])), ia 10, shUmb, shUmb, shUmb, shUmb, shUmb, shUmb, shUmb, shUmb]
abbrev shSheet (s : Nat) : List Sh := [.inl (1, [rf (s + 1), nu, nu]), ia 40]
def shT : List Sh := [.inl (7, [rf 1, rf 16, rf 31, nu, rf 46, rf 52, rf 54, rf 55, rf 56])] ++ shWorld 1 ++ shWorld 16 ++ shWorld 31 ++ [.inl (5, [rf 47, rf 51])] ++ shStreet 47 ++ [shUmb, .inl (3, [rf 53, nu]), ia 120, .inl (0, [rf 52, nu, nu, nu, nu]), .inr (.inr (1, [some 57, some 59, some 61, some 63])), ia 7] ++ shSheet 57 ++ shSheet 59 ++ shSheet 61 ++ shSheet 63 ++
  [.inl (8, [rf 66, rf 67, rf 68, rf 69, nu, rf 70, rf 71, nu, rf 72, rf 73, rf 74, nu, nu, nu, nu, nu, nu, nu, nu, nu, nu]), ia 127, ia 127, ia 127, ia 127, ia 8, ia 120, ia 4, ia 4, ia 160]
theorem shT_len : shT.length = 75 := rfl
def isW (w : Nat) : Prop := w = 1 ∨ w = 16 ∨ w = 31
def isS (s : Nat) : Prop := s = 2 ∨ s = 17 ∨ s = 32 ∨ s = 47
def isU (u : Nat) : Prop := (8 ≤ u ∧ u ≤ 15) ∨ (23 ≤ u ∧ u ≤ 30) ∨ (38 ≤ u ∧ u ≤ 45) ∨ u = 51
theorem isW.s {w : Nat} (h : isW w) : isS (w + 1) := by rcases h with rfl | rfl | rfl <;> simp [isS]
theorem isW.u {w u : Nat} (h : isW w) (hu : u < 8) : isU (w + 7 + u) := by rcases h with rfl | rfl | rfl <;> simp [isU] <;> omega
theorem shW {w : Nat} (h : isW w) : shT[w]? = some (.inl (6, [rf (w + 1), rf (w + 5), nu, rf (w + 6), nu])) := by rcases h with rfl | rfl | rfl <;> rfl
theorem shWu {w : Nat} (h : isW w) : shT[w + 5]? = some (.inr (.inr (2, [some (w + 7), some (w + 8), some (w + 9), some (w + 10), some (w + 11), some (w + 12), some (w + 13), some (w + 14)]))) := by rcases h with rfl | rfl | rfl <;> rfl
theorem shWp {w : Nat} (h : isW w) : shT[w + 6]? = some (ia 10) := by rcases h with rfl | rfl | rfl <;> rfl
theorem shS {s : Nat} (h : isS s) : shT[s]? = some (.inl (2, [rf (s + 1), rf (s + 2), rf (s + 3), nu, nu, nu])) := by rcases h with rfl | rfl | rfl | rfl <;> rfl
theorem shS1 {s : Nat} (h : isS s) : shT[s + 1]? = some (ia 16) := by rcases h with rfl | rfl | rfl | rfl <;> rfl
theorem shS2 {s : Nat} (h : isS s) : shT[s + 2]? = some (ia 16) := by rcases h with rfl | rfl | rfl | rfl <;> rfl
theorem shS3 {s : Nat} (h : isS s) : shT[s + 3]? = some (ia 16) := by rcases h with rfl | rfl | rfl | rfl <;> rfl
theorem shU {u : Nat} (h : isU u) : shT[u]? = some shUmb := by
  rcases h with ⟨h1, h2⟩ | ⟨h1, h2⟩ | ⟨h1, h2⟩ | rfl
  · obtain ⟨k, rfl⟩ : ∃ k, u = 8 + k := ⟨u - 8, by omega⟩
    match k, h2 with
    | 0, _ => rfl
    | 1, _ => rfl
    | 2, _ => rfl
    | 3, _ => rfl
    | 4, _ => rfl
    | 5, _ => rfl
    | 6, _ => rfl
    | 7, _ => rfl
    | k + 8, h => omega
  · obtain ⟨k, rfl⟩ : ∃ k, u = 23 + k := ⟨u - 23, by omega⟩
    match k, h2 with
    | 0, _ => rfl
    | 1, _ => rfl
    | 2, _ => rfl
    | 3, _ => rfl
    | 4, _ => rfl
    | 5, _ => rfl
    | 6, _ => rfl
    | 7, _ => rfl
    | k + 8, h => omega
  · obtain ⟨k, rfl⟩ : ∃ k, u = 38 + k := ⟨u - 38, by omega⟩
    match k, h2 with
    | 0, _ => rfl
    | 1, _ => rfl
    | 2, _ => rfl
    | 3, _ => rfl
    | 4, _ => rfl
    | 5, _ => rfl
    | 6, _ => rfl
    | 7, _ => rfl
    | k + 8, h => omega
  · rfl
def isH (s : Nat) : Prop := s = 57 ∨ s = 59 ∨ s = 61 ∨ s = 63
theorem shH {s : Nat} (h : isH s) : shT[s]? = some (.inl (1, [rf (s + 1), nu, nu])) := by rcases h with rfl | rfl | rfl | rfl <;> rfl
theorem shH1 {s : Nat} (h : isH s) : shT[s + 1]? = some (ia 40) := by rcases h with rfl | rfl | rfl | rfl <;> rfl
/-! small numbers -/
theorem ix_of {i : Int32} {n : Nat} (j : Nat) (h : (decide (¬ i < 0) && decide (i.toNatClampNeg < n) && decide (i.toNatClampNeg = j)) = true) : ix i n j := by
  simp only [Bool.and_eq_true, decide_eq_true_eq] at h
  exact ⟨fun q => q.elim h.1.1 (fun q => by omega), h.2⟩
def bI (p : Prop) [Decidable p] : Int32 := if p then 1 else 0
theorem bI_01 (p : Prop) [Decidable p] : bI p = 0 ∨ bI p = 1 := by unfold bI; split <;> simp
theorem bI_0 {p : Prop} [Decidable p] : bI p = 0 ↔ ¬ p := by unfold bI; split <;> simp_all
theorem bI_t {p : Prop} [Decidable p] (h : p) : (1 : Int32) = bI p := by simp [bI, h]
theorem bI_f {p : Prop} [Decidable p] (h : ¬ p) : (0 : Int32) = bI p := by simp [bI, h]
theorem bI_n {p : Prop} [Decidable p] : ¬ bI p = 0 ↔ p := by unfold bI; split <;> simp_all
def mx (x y : Int32) : Int32 := if x < y then y else x
def mn (x y : Int32) : Int32 := if y < x then y else x
theorem ts_in {x : Int32} {c : Int} {k : Int32} (h : ¬ x = k) (hk : k.toInt = c) : ¬ x.toInt = c := lv_neT h hk
/-- an index that was looked at -/
theorem ix_lt {x : Int32} {N : Nat} (h0 : ¬ x < 0) (h1 : x < nI N) (hN : N < 2 ^ 31) : ∃ j, j < N ∧ x = nI j := by
  obtain ⟨j, hj, rfl⟩ := nI_of h0
  exact ⟨j, (nI_ltI hj hN).mp h1, rfl⟩

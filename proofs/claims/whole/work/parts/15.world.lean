/-- it answers x, and the numbers are such as P says -/
abbrev CpI (l : Launch) (G : GG) (M : MR) (d : Nat) (T : List Sh) (as : List Value) (σ : Sg) (x : Int32) (P : Sg → Prop) : Prop := Ct l G M d T as σ (fun r ρ => r = some (.int x) ∧ P ρ)
abbrev CpV (l : Launch) (G : GG) (M : MR) (d : Nat) (T : List Sh) (as : List Value) (σ : Sg) (P : Sg → Prop) : Prop := Ct l G M d T as σ (fun r ρ => r = none ∧ P ρ)
section RP
variable {l : Launch} {X : CX} {G : GG} {T : List Sh} {σ : Sg} {L : List (Option Value)} {pc : Nat} {b : ByteArray} {own : String} {nL D : Nat} {M : MR} {d idx : Nat} {P : Sg → Prop}
theorem r_cVpi0 (B : Bd l X G b own nL D) {kb ci : Nat} {Tt : u_T} {N : Nat} {fs : List (Option (Option Nat))} {rest : List Value} {x : Int32} (K : KV own idx M 0) (c : CpI l G M d T [.ref (ad G kb)] σ x P) (hT : T[kb]? = some (.inl (ci, fs))) (hC : vwCl[ci]? = some (M.1.cls, Tt, N)) (hD : d + 1 ≤ D) (hs : sm rest ≤ 8) (dg : decode b pc = .ok (.invokevirtual idx, 3)) (kk : ∀ τ : Sg, P τ → V X G T τ L (.int x :: rest) (pc + 3)) : V X G T σ L (.ref (ad G kb) :: rest) pc := r_cV B (C := M.1.cls) (As := []) K c hD rfl hT hC hs dg (fun r ρ h => by obtain ⟨rfl, h⟩ := h; exact kk ρ h)
theorem r_cSpi0 (B : Bd l X G b own nL D) {rest : List Value} {x : Int32} (K : KS own idx M 0) (c : CpI l G M d T [] σ x P) (hD : d + 1 ≤ D) (hs : sm rest ≤ 8) (dg : decode b pc = .ok (.invokestatic idx, 3)) (kk : ∀ τ : Sg, P τ → V X G T τ L (.int x :: rest) (pc + 3)) : V X G T σ L rest pc := r_cS B (As := []) K c hD rfl hs dg (fun r ρ h => by obtain ⟨rfl, h⟩ := h; exact kk ρ h)
theorem r_cVpv0 (B : Bd l X G b own nL D) {kb ci : Nat} {Tt : u_T} {N : Nat} {fs : List (Option (Option Nat))} {rest : List Value}  (K : KV own idx M 0) (c : CpV l G M d T [.ref (ad G kb)] σ P) (hT : T[kb]? = some (.inl (ci, fs))) (hC : vwCl[ci]? = some (M.1.cls, Tt, N)) (hD : d + 1 ≤ D) (hs : sm rest ≤ 8) (dg : decode b pc = .ok (.invokevirtual idx, 3)) (kk : ∀ τ : Sg, P τ → V X G T τ L (rest) (pc + 3)) : V X G T σ L (.ref (ad G kb) :: rest) pc := r_cV B (C := M.1.cls) (As := []) K c hD rfl hT hC hs dg (fun r ρ h => by obtain ⟨rfl, h⟩ := h; exact kk ρ h)
theorem r_cSpv0 (B : Bd l X G b own nL D) {rest : List Value}  (K : KS own idx M 0) (c : CpV l G M d T [] σ P) (hD : d + 1 ≤ D) (hs : sm rest ≤ 8) (dg : decode b pc = .ok (.invokestatic idx, 3)) (kk : ∀ τ : Sg, P τ → V X G T τ L (rest) (pc + 3)) : V X G T σ L rest pc := r_cS B (As := []) K c hD rfl hs dg (fun r ρ h => by obtain ⟨rfl, h⟩ := h; exact kk ρ h)
theorem r_cVpi1 (B : Bd l X G b own nL D) {kb ci : Nat} {Tt : u_T} {N : Nat} {fs : List (Option (Option Nat))} {a1 : Value} {rest : List Value} {x : Int32} (K : KV own idx M 1) (c : CpI l G M d T [.ref (ad G kb), a1] σ x P) (hT : T[kb]? = some (.inl (ci, fs))) (hC : vwCl[ci]? = some (M.1.cls, Tt, N)) (hD : d + 1 ≤ D) (hs : sm rest ≤ 8) (dg : decode b pc = .ok (.invokevirtual idx, 3)) (kk : ∀ τ : Sg, P τ → V X G T τ L (.int x :: rest) (pc + 3)) : V X G T σ L (a1 :: .ref (ad G kb) :: rest) pc := r_cV B (C := M.1.cls) (As := [a1]) K c hD rfl hT hC hs dg (fun r ρ h => by obtain ⟨rfl, h⟩ := h; exact kk ρ h)
theorem r_cSpi1 (B : Bd l X G b own nL D) {a1 : Value} {rest : List Value} {x : Int32} (K : KS own idx M 1) (c : CpI l G M d T [a1] σ x P) (hD : d + 1 ≤ D) (hs : sm rest ≤ 8) (dg : decode b pc = .ok (.invokestatic idx, 3)) (kk : ∀ τ : Sg, P τ → V X G T τ L (.int x :: rest) (pc + 3)) : V X G T σ L (a1 :: rest) pc := r_cS B (As := [a1]) K c hD rfl hs dg (fun r ρ h => by obtain ⟨rfl, h⟩ := h; exact kk ρ h)
theorem r_cVpv1 (B : Bd l X G b own nL D) {kb ci : Nat} {Tt : u_T} {N : Nat} {fs : List (Option (Option Nat))} {a1 : Value} {rest : List Value}  (K : KV own idx M 1) (c : CpV l G M d T [.ref (ad G kb), a1] σ P) (hT : T[kb]? = some (.inl (ci, fs))) (hC : vwCl[ci]? = some (M.1.cls, Tt, N)) (hD : d + 1 ≤ D) (hs : sm rest ≤ 8) (dg : decode b pc = .ok (.invokevirtual idx, 3)) (kk : ∀ τ : Sg, P τ → V X G T τ L (rest) (pc + 3)) : V X G T σ L (a1 :: .ref (ad G kb) :: rest) pc := r_cV B (C := M.1.cls) (As := [a1]) K c hD rfl hT hC hs dg (fun r ρ h => by obtain ⟨rfl, h⟩ := h; exact kk ρ h)
theorem r_cSpv1 (B : Bd l X G b own nL D) {a1 : Value} {rest : List Value}  (K : KS own idx M 1) (c : CpV l G M d T [a1] σ P) (hD : d + 1 ≤ D) (hs : sm rest ≤ 8) (dg : decode b pc = .ok (.invokestatic idx, 3)) (kk : ∀ τ : Sg, P τ → V X G T τ L (rest) (pc + 3)) : V X G T σ L (a1 :: rest) pc := r_cS B (As := [a1]) K c hD rfl hs dg (fun r ρ h => by obtain ⟨rfl, h⟩ := h; exact kk ρ h)
theorem r_cVpi2 (B : Bd l X G b own nL D) {kb ci : Nat} {Tt : u_T} {N : Nat} {fs : List (Option (Option Nat))} {a1 a2 : Value} {rest : List Value} {x : Int32} (K : KV own idx M 2) (c : CpI l G M d T [.ref (ad G kb), a1, a2] σ x P) (hT : T[kb]? = some (.inl (ci, fs))) (hC : vwCl[ci]? = some (M.1.cls, Tt, N)) (hD : d + 1 ≤ D) (hs : sm rest ≤ 8) (dg : decode b pc = .ok (.invokevirtual idx, 3)) (kk : ∀ τ : Sg, P τ → V X G T τ L (.int x :: rest) (pc + 3)) : V X G T σ L (a2 :: a1 :: .ref (ad G kb) :: rest) pc := r_cV B (C := M.1.cls) (As := [a1, a2]) K c hD rfl hT hC hs dg (fun r ρ h => by obtain ⟨rfl, h⟩ := h; exact kk ρ h)
theorem r_cSpi2 (B : Bd l X G b own nL D) {a1 a2 : Value} {rest : List Value} {x : Int32} (K : KS own idx M 2) (c : CpI l G M d T [a1, a2] σ x P) (hD : d + 1 ≤ D) (hs : sm rest ≤ 8) (dg : decode b pc = .ok (.invokestatic idx, 3)) (kk : ∀ τ : Sg, P τ → V X G T τ L (.int x :: rest) (pc + 3)) : V X G T σ L (a2 :: a1 :: rest) pc := r_cS B (As := [a1, a2]) K c hD rfl hs dg (fun r ρ h => by obtain ⟨rfl, h⟩ := h; exact kk ρ h)
theorem r_cVpv2 (B : Bd l X G b own nL D) {kb ci : Nat} {Tt : u_T} {N : Nat} {fs : List (Option (Option Nat))} {a1 a2 : Value} {rest : List Value}  (K : KV own idx M 2) (c : CpV l G M d T [.ref (ad G kb), a1, a2] σ P) (hT : T[kb]? = some (.inl (ci, fs))) (hC : vwCl[ci]? = some (M.1.cls, Tt, N)) (hD : d + 1 ≤ D) (hs : sm rest ≤ 8) (dg : decode b pc = .ok (.invokevirtual idx, 3)) (kk : ∀ τ : Sg, P τ → V X G T τ L (rest) (pc + 3)) : V X G T σ L (a2 :: a1 :: .ref (ad G kb) :: rest) pc := r_cV B (C := M.1.cls) (As := [a1, a2]) K c hD rfl hT hC hs dg (fun r ρ h => by obtain ⟨rfl, h⟩ := h; exact kk ρ h)
theorem r_cSpv2 (B : Bd l X G b own nL D) {a1 a2 : Value} {rest : List Value}  (K : KS own idx M 2) (c : CpV l G M d T [a1, a2] σ P) (hD : d + 1 ≤ D) (hs : sm rest ≤ 8) (dg : decode b pc = .ok (.invokestatic idx, 3)) (kk : ∀ τ : Sg, P τ → V X G T τ L (rest) (pc + 3)) : V X G T σ L (a2 :: a1 :: rest) pc := r_cS B (As := [a1, a2]) K c hD rfl hs dg (fun r ρ h => by obtain ⟨rfl, h⟩ := h; exact kk ρ h)
theorem r_cVpi3 (B : Bd l X G b own nL D) {kb ci : Nat} {Tt : u_T} {N : Nat} {fs : List (Option (Option Nat))} {a1 a2 a3 : Value} {rest : List Value} {x : Int32} (K : KV own idx M 3) (c : CpI l G M d T [.ref (ad G kb), a1, a2, a3] σ x P) (hT : T[kb]? = some (.inl (ci, fs))) (hC : vwCl[ci]? = some (M.1.cls, Tt, N)) (hD : d + 1 ≤ D) (hs : sm rest ≤ 8) (dg : decode b pc = .ok (.invokevirtual idx, 3)) (kk : ∀ τ : Sg, P τ → V X G T τ L (.int x :: rest) (pc + 3)) : V X G T σ L (a3 :: a2 :: a1 :: .ref (ad G kb) :: rest) pc := r_cV B (C := M.1.cls) (As := [a1, a2, a3]) K c hD rfl hT hC hs dg (fun r ρ h => by obtain ⟨rfl, h⟩ := h; exact kk ρ h)
theorem r_cSpi3 (B : Bd l X G b own nL D) {a1 a2 a3 : Value} {rest : List Value} {x : Int32} (K : KS own idx M 3) (c : CpI l G M d T [a1, a2, a3] σ x P) (hD : d + 1 ≤ D) (hs : sm rest ≤ 8) (dg : decode b pc = .ok (.invokestatic idx, 3)) (kk : ∀ τ : Sg, P τ → V X G T τ L (.int x :: rest) (pc + 3)) : V X G T σ L (a3 :: a2 :: a1 :: rest) pc := r_cS B (As := [a1, a2, a3]) K c hD rfl hs dg (fun r ρ h => by obtain ⟨rfl, h⟩ := h; exact kk ρ h)
theorem r_cVpv3 (B : Bd l X G b own nL D) {kb ci : Nat} {Tt : u_T} {N : Nat} {fs : List (Option (Option Nat))} {a1 a2 a3 : Value} {rest : List Value}  (K : KV own idx M 3) (c : CpV l G M d T [.ref (ad G kb), a1, a2, a3] σ P) (hT : T[kb]? = some (.inl (ci, fs))) (hC : vwCl[ci]? = some (M.1.cls, Tt, N)) (hD : d + 1 ≤ D) (hs : sm rest ≤ 8) (dg : decode b pc = .ok (.invokevirtual idx, 3)) (kk : ∀ τ : Sg, P τ → V X G T τ L (rest) (pc + 3)) : V X G T σ L (a3 :: a2 :: a1 :: .ref (ad G kb) :: rest) pc := r_cV B (C := M.1.cls) (As := [a1, a2, a3]) K c hD rfl hT hC hs dg (fun r ρ h => by obtain ⟨rfl, h⟩ := h; exact kk ρ h)
theorem r_cSpv3 (B : Bd l X G b own nL D) {a1 a2 a3 : Value} {rest : List Value}  (K : KS own idx M 3) (c : CpV l G M d T [a1, a2, a3] σ P) (hD : d + 1 ≤ D) (hs : sm rest ≤ 8) (dg : decode b pc = .ok (.invokestatic idx, 3)) (kk : ∀ τ : Sg, P τ → V X G T τ L (rest) (pc + 3)) : V X G T σ L (a3 :: a2 :: a1 :: rest) pc := r_cS B (As := [a1, a2, a3]) K c hD rfl hs dg (fun r ρ h => by obtain ⟨rfl, h⟩ := h; exact kk ρ h)
theorem r_cVpi4 (B : Bd l X G b own nL D) {kb ci : Nat} {Tt : u_T} {N : Nat} {fs : List (Option (Option Nat))} {a1 a2 a3 a4 : Value} {rest : List Value} {x : Int32} (K : KV own idx M 4) (c : CpI l G M d T [.ref (ad G kb), a1, a2, a3, a4] σ x P) (hT : T[kb]? = some (.inl (ci, fs))) (hC : vwCl[ci]? = some (M.1.cls, Tt, N)) (hD : d + 1 ≤ D) (hs : sm rest ≤ 8) (dg : decode b pc = .ok (.invokevirtual idx, 3)) (kk : ∀ τ : Sg, P τ → V X G T τ L (.int x :: rest) (pc + 3)) : V X G T σ L (a4 :: a3 :: a2 :: a1 :: .ref (ad G kb) :: rest) pc := r_cV B (C := M.1.cls) (As := [a1, a2, a3, a4]) K c hD rfl hT hC hs dg (fun r ρ h => by obtain ⟨rfl, h⟩ := h; exact kk ρ h)
theorem r_cSpi4 (B : Bd l X G b own nL D) {a1 a2 a3 a4 : Value} {rest : List Value} {x : Int32} (K : KS own idx M 4) (c : CpI l G M d T [a1, a2, a3, a4] σ x P) (hD : d + 1 ≤ D) (hs : sm rest ≤ 8) (dg : decode b pc = .ok (.invokestatic idx, 3)) (kk : ∀ τ : Sg, P τ → V X G T τ L (.int x :: rest) (pc + 3)) : V X G T σ L (a4 :: a3 :: a2 :: a1 :: rest) pc := r_cS B (As := [a1, a2, a3, a4]) K c hD rfl hs dg (fun r ρ h => by obtain ⟨rfl, h⟩ := h; exact kk ρ h)
theorem r_cVpv4 (B : Bd l X G b own nL D) {kb ci : Nat} {Tt : u_T} {N : Nat} {fs : List (Option (Option Nat))} {a1 a2 a3 a4 : Value} {rest : List Value}  (K : KV own idx M 4) (c : CpV l G M d T [.ref (ad G kb), a1, a2, a3, a4] σ P) (hT : T[kb]? = some (.inl (ci, fs))) (hC : vwCl[ci]? = some (M.1.cls, Tt, N)) (hD : d + 1 ≤ D) (hs : sm rest ≤ 8) (dg : decode b pc = .ok (.invokevirtual idx, 3)) (kk : ∀ τ : Sg, P τ → V X G T τ L (rest) (pc + 3)) : V X G T σ L (a4 :: a3 :: a2 :: a1 :: .ref (ad G kb) :: rest) pc := r_cV B (C := M.1.cls) (As := [a1, a2, a3, a4]) K c hD rfl hT hC hs dg (fun r ρ h => by obtain ⟨rfl, h⟩ := h; exact kk ρ h)
theorem r_cSpv4 (B : Bd l X G b own nL D) {a1 a2 a3 a4 : Value} {rest : List Value}  (K : KS own idx M 4) (c : CpV l G M d T [a1, a2, a3, a4] σ P) (hD : d + 1 ≤ D) (hs : sm rest ≤ 8) (dg : decode b pc = .ok (.invokestatic idx, 3)) (kk : ∀ τ : Sg, P τ → V X G T τ L (rest) (pc + 3)) : V X G T σ L (a4 :: a3 :: a2 :: a1 :: rest) pc := r_cS B (As := [a1, a2, a3, a4]) K c hD rfl hs dg (fun r ρ h => by obtain ⟨rfl, h⟩ := h; exact kk ρ h)
end RP

/-! a world as a row of 127 numbers: size, TICK, z, RAIN, GUST, 16 FROM, 16 STRENGTH, 16 ROOF, 8 times 8, 10 spots -/
def lcO (j : Nat) : Nat × Nat := if j = 0 then (0, 2) else if j = 1 then (1, 5) else if j = 2 then (0, 4) else if j = 3 then (1, 3) else if j = 4 then (1, 4) else if j < 21 then (2, j - 5) else if j < 37 then (3, j - 21) else if j < 53 then (4, j - 37) else if j < 117 then (7 + (j - 53) / 8, (j - 53) % 8) else (6, j - 117)
def vw (W : Nat) (σ : Sg) (j : Nat) : Int32 := σ (W + (lcO j).1) (lcO j).2
theorem lc_cell (j : Nat) : (lcO j).1 < 15 ∨ 117 ≤ j := by
  unfold lcO
  split <;> (try simp) <;> (try split) <;> (try simp) <;> (try split) <;> (try simp) <;> (try split) <;> (try simp) <;> (try split) <;> (try simp) <;> (try split) <;> (try simp) <;> (try split) <;> (try simp) <;> (try split) <;> (try simp) <;> (try split) <;> (try simp) <;> omega
theorem vw_0 (W : Nat) (σ : Sg) : vw W σ 0 = σ W 2 := rfl
theorem vw_1 (W : Nat) (σ : Sg) : vw W σ 1 = σ (W + 1) 5 := rfl
theorem vw_2 (W : Nat) (σ : Sg) : vw W σ 2 = σ W 4 := rfl
theorem vw_3 (W : Nat) (σ : Sg) : vw W σ 3 = σ (W + 1) 3 := rfl
theorem vw_4 (W : Nat) (σ : Sg) : vw W σ 4 = σ (W + 1) 4 := rfl
theorem lc_f {k : Nat} (h : k < 16) : lcO (5 + k) = (2, k) := by
  unfold lcO
  rw [if_neg (by omega), if_neg (by omega), if_neg (by omega), if_neg (by omega), if_neg (by omega), if_pos (by omega)]
  simp
theorem vw_f (W : Nat) (σ : Sg) {k : Nat} (h : k < 16) : vw W σ (5 + k) = σ (W + 2) k := by simp [vw, lc_f h]
theorem lc_s {k : Nat} (h : k < 16) : lcO (21 + k) = (3, k) := by
  unfold lcO
  rw [if_neg (by omega), if_neg (by omega), if_neg (by omega), if_neg (by omega), if_neg (by omega), if_neg (by omega), if_pos (by omega)]
  simp
theorem vw_s (W : Nat) (σ : Sg) {k : Nat} (h : k < 16) : vw W σ (21 + k) = σ (W + 3) k := by simp [vw, lc_s h]
theorem lc_r {k : Nat} (h : k < 16) : lcO (37 + k) = (4, k) := by
  unfold lcO
  rw [if_neg (by omega), if_neg (by omega), if_neg (by omega), if_neg (by omega), if_neg (by omega), if_neg (by omega), if_neg (by omega), if_pos (by omega)]
  simp
theorem vw_r (W : Nat) (σ : Sg) {k : Nat} (h : k < 16) : vw W σ (37 + k) = σ (W + 4) k := by simp [vw, lc_r h]
theorem lc_u {u i : Nat} (h : u < 8) (hi : i < 8) : lcO (53 + 8 * u + i) = (7 + u, i) := by
  unfold lcO
  rw [if_neg (by omega), if_neg (by omega), if_neg (by omega), if_neg (by omega), if_neg (by omega), if_neg (by omega), if_neg (by omega), if_neg (by omega), if_pos (by omega)]
  rw [show 53 + 8 * u + i - 53 = 8 * u + i by omega, show (8 * u + i) / 8 = u by omega, show (8 * u + i) % 8 = i by omega]
theorem vw_u (W : Nat) (σ : Sg) {u i : Nat} (h : u < 8) (hi : i < 8) : vw W σ (53 + 8 * u + i) = σ (W + 7 + u) i := by
  simp only [vw, lc_u h hi]
  rw [show W + (7 + u) = W + 7 + u by omega]
theorem lc_p {k : Nat} (h : k < 10) : lcO (117 + k) = (6, k) := by
  unfold lcO
  rw [if_neg (by omega), if_neg (by omega), if_neg (by omega), if_neg (by omega), if_neg (by omega), if_neg (by omega), if_neg (by omega), if_neg (by omega), if_neg (by omega)]
  simp
theorem vw_p (W : Nat) (σ : Sg) {k : Nat} (h : k < 10) : vw W σ (117 + k) = σ (W + 6) k := by simp [vw, lc_p h]
/-- of which kind a place is -/
theorem pl_cases {P : Nat → Prop} (h0 : P 0) (h1 : P 1) (h2 : P 2) (h3 : P 3) (h4 : P 4) (hf : ∀ k, k < 16 → P (5 + k)) (hs : ∀ k, k < 16 → P (21 + k)) (hr : ∀ k, k < 16 → P (37 + k)) (hu : ∀ u i, u < 8 → i < 8 → P (53 + 8 * u + i)) (hp : ∀ k, k < 10 → P (117 + k)) : ∀ j, j < 127 → P j := by
  intro j hj
  by_cases a0 : j = 0
  · subst a0; exact h0
  by_cases a1 : j = 1
  · subst a1; exact h1
  by_cases a2 : j = 2
  · subst a2; exact h2
  by_cases a3 : j = 3
  · subst a3; exact h3
  by_cases a4 : j = 4
  · subst a4; exact h4
  by_cases a5 : j < 21
  · have := hf (j - 5) (by omega); rwa [show 5 + (j - 5) = j by omega] at this
  by_cases a6 : j < 37
  · have := hs (j - 21) (by omega); rwa [show 21 + (j - 21) = j by omega] at this
  by_cases a7 : j < 53
  · have := hr (j - 37) (by omega); rwa [show 37 + (j - 37) = j by omega] at this
  by_cases a8 : j < 117
  · have := hu ((j - 53) / 8) ((j - 53) % 8) (by omega) (by omega); rwa [show 53 + 8 * ((j - 53) / 8) + (j - 53) % 8 = j by omega] at this
  · have := hp (j - 117) (by omega); rwa [show 117 + (j - 117) = j by omega] at this
def lcI (q : Nat × Nat) : Nat := if q.1 = 0 then (if q.2 = 2 then 0 else 2) else if q.1 = 1 then (if q.2 = 5 then 1 else q.2) else if q.1 = 2 then 5 + q.2 else if q.1 = 3 then 21 + q.2 else if q.1 = 4 then 37 + q.2 else if q.1 = 6 then 117 + q.2 else 53 + 8 * (q.1 - 7) + q.2
theorem lc_inv : ∀ j, j < 127 → lcI (lcO j) = j := by
  refine pl_cases rfl rfl rfl rfl rfl (fun k hk => ?_) (fun k hk => ?_) (fun k hk => ?_) (fun v i hv hi => ?_) (fun k hk => ?_)
  · rw [lc_f hk]; simp [lcI]
  · rw [lc_s hk]; simp [lcI]
  · rw [lc_r hk]; simp [lcI]
  · rw [lc_u hv hi]
    simp only [lcI]
    rw [if_neg (by omega), if_neg (by omega), if_neg (by omega), if_neg (by omega), if_neg (by omega), if_neg (by omega)]
    omega
  · rw [lc_p hk]; simp [lcI]
/-- the world at W becomes the row w, and nothing else changes -/
def isWr (W : Nat) (σ τ : Sg) (w : Nat → Int32) : Prop := (∀ j, j < 127 → vw W τ j = w j) ∧ ∀ k, k < W ∨ W + 15 ≤ k → τ k = σ k
theorem isWr.rf (W : Nat) (σ : Sg) : isWr W σ σ (vw W σ) := ⟨fun _ _ => rfl, fun _ _ => rfl⟩
theorem isWr.tr {W : Nat} {σ τ ρ : Sg} {w x : Nat → Int32} (h1 : isWr W σ τ w) (h2 : isWr W τ ρ x) : isWr W σ ρ x := ⟨h2.1, fun k hk => (h2.2 k hk).trans (h1.2 k hk)⟩
def um (w : Nat → Int32) (u : Nat) : Nat → Int32 := fun i => w (53 + 8 * u + i)
def putU (w : Nat → Int32) (u : Nat) (f : Nat → Int32) : Nat → Int32 := fun k => if 53 + 8 * u ≤ k ∧ k < 53 + 8 * u + 8 then f (k - (53 + 8 * u)) else w k
def goW (w : Nat → Int32) (u j : Nat) : Nat → Int32 := goU (fun k => w (5 + k)) (fun k => w (21 + k)) (fun k => w (37 + k)) (w 3) (w 4) (w 1) (um w u) j
def goV (w : Nat → Int32) (u : Nat) : Nat → Int32 := if stepP (w (53 + 8 * u + 1)) then putU w u (goW w u (w (53 + 8 * u + 1)).toNatClampNeg) else w
abbrev gsP (w : Nat → Int32) (u : Nat) : Prop := stepP (w (53 + 8 * u + 1)) ∧ goG (fun k => w (5 + k)) (fun k => w (21 + k)) (fun k => w (37 + k)) (w 4) (w 1) (um w u) (w (53 + 8 * u + 1)).toNatClampNeg
def goN (w : Nat → Int32) : Nat → (Nat → Int32)
  | 0 => w
  | n + 1 => goV (goN w n) n
def cntN (w : Nat → Int32) : Nat → Int32
  | 0 => 0
  | n + 1 => cntN w n + bI (gsP (goN w n) n)
def tickV (w : Nat → Int32) (n : Nat) : Nat → Int32 := upd (goN w n) 1 (mn 99999 (goN w n 1 + 1))
theorem goU_congr {fr sn ro fr' sn' ro' : Nat → Int32} {rain g t : Int32} {u u' : Nat → Int32} {j : Nat} (h1 : fr j = fr' j) (h2 : fr (jn j) = fr' (jn j)) (h3 : sn j = sn' j) (h4 : ro j = ro' j) (hu : ∀ i, i < 8 → u i = u' i) : (∀ i, i < 8 → goU fr sn ro rain g t u j i = goU fr' sn' ro' rain g t u' j i) ∧ hdG fr sn ro g t u j = hdG fr' sn' ro' g t u' j ∧ zG fr sn ro g t u j = zG fr' sn' ro' g t u' j := by
  have e0 := hu 0 (by omega)
  have e1 := hu 1 (by omega)
  have e2 := hu 2 (by omega)
  have e3 := hu 3 (by omega)
  have e4 := hu 4 (by omega)
  have e5 := hu 5 (by omega)
  have e6 := hu 6 (by omega)
  have e7 := hu 7 (by omega)
  have es : stiffF u = stiffF u' := by simp only [stiffF, e0, e4, e7]
  have ew : windF sn ro g t j = windF sn' ro' g t j := by simp only [windF, h3, h4]
  have eh : hdG fr sn ro g t u j = hdG fr' sn' ro' g t u' j := by simp only [hdG, e2, e3, h1, h2, es, ew]
  have ez : zG fr sn ro g t u j = zG fr' sn' ro' g t u' j := by simp only [zG, h1, es, ew, eh]
  refine ⟨fun i hi => ?_, eh, ez⟩
  have eo : otG fr sn ro g t u j = otG fr' sn' ro' g t u' j := by simp only [otG, e5, h1, eh, ez]
  simp only [goU, eo, eh, goG, e5, ez, e1, e0, e4, e6, e7, h4, hu i hi]
theorem vw_wrU {W u : Nat} {σ : Sg} {f : Nat → Int32} (hu : u < 8) : ∀ j, j < 127 → vw W (wrU σ (W + 7 + u) f) j = putU (vw W σ) u f j := by
  refine pl_cases ?_ ?_ ?_ ?_ ?_ (fun k hk => ?_) (fun k hk => ?_) (fun k hk => ?_) (fun v i hv hi => ?_) (fun k hk => ?_)
  all_goals (try rw [vw_f _ _ hk])
  all_goals (try rw [vw_s _ _ hk])
  all_goals (try rw [vw_r _ _ hk])
  all_goals (try rw [vw_p _ _ hk])
  all_goals (try rw [vw_0])
  all_goals (try rw [vw_1])
  all_goals (try rw [vw_2])
  all_goals (try rw [vw_3])
  all_goals (try rw [vw_4])
  all_goals (try (simp only [wrU, putU]; rw [if_neg (by omega), if_neg (by omega)]; first | rfl | rw [vw_f _ _ hk] | rw [vw_s _ _ hk] | rw [vw_r _ _ hk] | rw [vw_p _ _ hk]))
  rw [vw_u _ _ hv hi]
  simp only [wrU, putU]
  by_cases e : v = u
  · subst e
    rw [if_pos ⟨rfl, hi⟩, if_pos (by omega), show 53 + 8 * v + i - (53 + 8 * v) = i by omega]
  · rw [if_neg (by omega), if_neg (by omega), vw_u _ _ hv hi]
theorem wrU_fr {W u : Nat} {σ : Sg} {f : Nat → Int32} (hu : u < 8) : ∀ k, k < W ∨ W + 15 ≤ k → wrU σ (W + 7 + u) f k = σ k := fun k hk => by
  funext i
  simp only [wrU]
  rw [if_neg (by omega)]
theorem wr_walk {W u j : Nat} {σ τ : Sg} {w : Nat → Int32} (h : isWr W σ τ w) (hu : u < 8) (hj : j < 16) (ha : τ (W + 7 + u) 1 = nI j) : isWr W σ (wrU τ (W + 7 + u) (goS τ (W + 1) (W + 7 + u) j)) (goV w u) ∧ (goesP (τ (W + 7 + u) 5) (hdS τ (W + 1) (W + 7 + u) j) (zS τ (W + 1) (W + 7 + u) j) ↔ gsP w u) := by
  have hw1 : w (53 + 8 * u + 1) = nI j := by rw [← h.1 _ (by omega), vw_u _ _ hu (by omega), ha]
  have hn : (nI j).toNatClampNeg = j := nI_clamp (by omega)
  have hst : stepP (w (53 + 8 * u + 1)) := by rw [hw1]; exact nI_stepP hj
  have hjn := jn_lt j
  have c := goU_congr (fr := τ (W + 2)) (sn := τ (W + 3)) (ro := τ (W + 4)) (fr' := fun k => w (5 + k)) (sn' := fun k => w (21 + k)) (ro' := fun k => w (37 + k)) (rain := w 3) (g := w 4) (t := w 1) (u := τ (W + 7 + u)) (u' := um w u) (j := j)
    (by rw [← h.1 _ (by omega), vw_f _ _ hj]) (by rw [← h.1 _ (by omega), vw_f _ _ hjn]) (by rw [← h.1 _ (by omega), vw_s _ _ hj]) (by rw [← h.1 _ (by omega), vw_r _ _ hj]) (fun i hi => by rw [um, ← h.1 _ (by omega), vw_u _ _ hu hi])
  have e3 : τ (W + 1) 3 = w 3 := by rw [← h.1 3 (by omega), vw_3]
  have e4 : τ (W + 1) 4 = w 4 := by rw [← h.1 4 (by omega), vw_4]
  have e5 : τ (W + 1) 5 = w 1 := by rw [← h.1 1 (by omega), vw_1]
  have eu5 : τ (W + 7 + u) 5 = um w u 5 := by rw [um, ← h.1 _ (by omega), vw_u _ _ hu (by omega)]
  refine ⟨⟨fun k hk => ?_, fun k hk => (wrU_fr hu k hk).trans (h.2 k hk)⟩, ?_⟩
  · rw [vw_wrU hu k hk]
    rw [goV, if_pos hst, hw1, hn]
    simp only [putU]
    by_cases q : 53 + 8 * u ≤ k ∧ k < 53 + 8 * u + 8
    · rw [if_pos q, if_pos q]
      show goU (τ (W + 1 + 1)) (τ (W + 1 + 2)) (τ (W + 1 + 3)) (τ (W + 1) 3) (τ (W + 1) 4) (τ (W + 1) 5) (τ (W + 7 + u)) j _ = _
      rw [e3, e4, e5]
      exact c.1 _ (by omega)
    · rw [if_neg q, if_neg q]; exact h.1 k hk
  · simp only [gsP, hw1, hn]
    show goesP _ (hdG (τ (W + 2)) (τ (W + 3)) (τ (W + 4)) (τ (W + 1) 4) (τ (W + 1) 5) (τ (W + 7 + u)) j) (zG (τ (W + 2)) (τ (W + 3)) (τ (W + 4)) (τ (W + 1) 4) (τ (W + 1) 5) (τ (W + 7 + u)) j) ↔ _
    rw [e4, e5, c.2.1, c.2.2, eu5]
    exact ⟨fun q => ⟨nI_stepP hj, q⟩, fun q => q.2⟩
theorem goV_ne {w : Nat → Int32} {u k : Nat} (h : k < 53 + 8 * u ∨ 53 + 8 * u + 8 ≤ k) : goV w u k = w k := by
  unfold goV
  split
  · simp only [putU]; rw [if_neg (by omega)]
  · rfl
theorem goN_lo {w : Nat → Int32} {k : Nat} (h : k < 53) : ∀ n, goN w n k = w k
  | 0 => rfl
  | n + 1 => by rw [goN, goV_ne (by omega), goN_lo h n]
theorem el_u {W u : Nat} (h : u < 8) : ([some (W + 7), some (W + 8), some (W + 9), some (W + 10), some (W + 11), some (W + 12), some (W + 13), some (W + 14)] : List (Option Nat))[u]? = some (some (W + 7 + u)) := by
  match u, h with
  | 0, _ => rfl
  | 1, _ => rfl
  | 2, _ => rfl
  | 3, _ => rfl
  | 4, _ => rfl
  | 5, _ => rfl
  | 6, _ => rfl
  | 7, _ => rfl
  | u + 8, h => omega
def sumS (f : Nat → Int32) : Nat → Int32
  | 0 => 0
  | n + 1 => sumS f n + f n
theorem nI_ge_of {i n : Nat} (hn : n ≤ 1000) (hi : i ≤ 1000) (h : nI n ≤ nI i) : n ≤ i := (nI_leI (by omega) (by omega)).mp h
theorem nI_lt_of {i n : Nat} (hn : n ≤ 1000) (hi : i ≤ 1000) (h : ¬ nI n ≤ nI i) : i < n := by
  rcases Nat.lt_or_ge i n with q | q
  · exact q
  · exact absurd ((nI_leI (by omega) (by omega)).mpr q) h
theorem gsP_iff {p q : Prop} [Decidable p] [Decidable q] (h : p ↔ q) : bI p = bI q := by unfold bI; simp [h]
/-- an umbrella of a world goes on -/
theorem c_walkW (l : Launch) (G : GG) {W u : Nat} (hW : isW W) (hu : u < 8) {σ τ : Sg} {w : Nat → Int32} (h : isWr W σ τ w) : CpI l G mX4_walkOn 2 shT [.ref (ad G (W + 7 + u)), .ref (ad G (W + 1))] τ (bI (gsP w u)) (fun ρ => isWr W σ ρ (goV w u)) := by
  have hw1 : w (53 + 8 * u + 1) = τ (W + 7 + u) 1 := by rw [← h.1 _ (by omega), vw_u _ _ hu (by omega)]
  by_cases hs : stepP (τ (W + 7 + u) 1)
  · obtain ⟨j, hj, ha⟩ := stepP_nI hs
    obtain ⟨h1, h2⟩ := wr_walk h hu hj ha
    exact (c_walkOn l G τ (hW.u hu) hW.s hj ha).mono (fun r ρ q => ⟨by rw [q.1, gsP_iff h2], by rw [q.2]; exact h1⟩)
  · refine (c_walkOnH l G τ (hW.u hu) hW.s hs).mono (fun r ρ q => ⟨?_, ?_⟩)
    · rw [q.1, ← bI_f (p := gsP w u) (fun z => hs (by rw [← hw1]; exact z.1))]
    · rw [q.2]
      have e : goV w u = w := by unfold goV; rw [hw1, if_neg hs]
      rw [e]; exact h
theorem vw_st2 {W : Nat} {σ : Sg} {m : Nat} {c i : Nat} (v : Int32) (hm : m < 127) (hc : lcO m = (c, i)) : ∀ j, j < 127 → vw W (st2 σ (W + c) i v) j = upd (vw W σ) m v j := by
  intro j hj
  have inj : lcO j = lcO m → j = m := fun e => by rw [← lc_inv j hj, ← lc_inv m hm, e]
  by_cases e : j = m
  · subst e; simp only [vw, hc, st2, upd]; simp
  · simp only [vw, st2, upd, if_neg e]
    by_cases a : (lcO j).1 = c
    · by_cases b : (lcO j).2 = i
      · exact absurd (inj (by rw [hc, ← a, ← b])) e
      · simp [b]
    · simp [a]
theorem wr_st2 {W : Nat} {σ τ : Sg} {w : Nat → Int32} {m c i : Nat} (v : Int32) (h : isWr W σ τ w) (hm : m < 127) (hc : lcO m = (c, i)) (hc15 : c < 15) : isWr W σ (st2 τ (W + c) i v) (upd w m v) := by
  refine ⟨fun j hj => ?_, fun k hk => (st2_cl _ _ _ _ (by omega)).trans (h.2 k hk)⟩
  rw [vw_st2 v hm hc j hj]
  simp only [upd]
  split
  · rfl
  · exact h.1 j hj
theorem wr_tick {W : Nat} {σ τ : Sg} {x : Nat → Int32} {n : Nat} (h : isWr W σ τ (goN x n)) : isWr W σ (st2 τ (W + 1) 5 (mn 99999 (τ (W + 1) 5 + 1))) (tickV x n) := by
  have e : τ (W + 1) 5 = goN x n 1 := by rw [← vw_1 W τ, h.1 1 (by omega)]
  rw [e]
  exact wr_st2 (m := 1) (c := 1) (i := 5) _ h (by omega) rfl (by omega)

set_option maxHeartbeats 4000000 in
set_option maxRecDepth 20000 in
theorem c_isFull (l : Launch) (G : GG) (σ : Sg) {W : Nat} (hW : isW W) : CtI l G mX6_isFull 0 shT [.ref (ad G W)] σ (bI (¬ σ W 2 < 8)) σ := by
  refine ct_intro (by decide) (Nat.le_of_ble_eq_true rfl) (fun X B R => ?_)
  show V X G shT σ [some (.ref (ad G W))] [] 0
  refine r_aload_n (pc := 0) B dX6_isFull_0 rfl ?_
  refine r_geti (pc := 1) B FX6_24 (shW hW) rfl dX6_isFull_1 ?_
  refine r_bipush (pc := 4) (x := 8) B dX6_isFull_4 (by decide) ?_
  refine r_bz_icmp_lt (pc := 6) B dX6_isFull_6 dX6_isFull_9 dX6_isFull_10 dX6_isFull_13 ?_
  exact r_zret (pc := 14) B R (by first | decide | exact bI_01 _) dX6_isFull_14 ⟨rfl, rfl⟩
set_option maxHeartbeats 4000000 in
set_option maxRecDepth 20000 in
theorem c_draw (l : Launch) (G : GG) (σ : Sg) {W : Nat} (hW : isW W) : CtI l G mX6_draw 0 shT [.ref (ad G W)] σ ((σ W 4 * 1103515245 + 12345).toUInt32 >>> ((8 : Int32).toUInt32 &&& Int32.toUInt32 31)).toInt32 (st2 σ W 4 (σ W 4 * 1103515245 + 12345)) := by
  refine ct_intro (by decide) (Nat.le_of_ble_eq_true rfl) (fun X B R => ?_)
  show V X G shT σ [some (.ref (ad G W))] [] 0
  refine r_aload_n (pc := 0) B dX6_draw_0 rfl ?_
  refine r_aload_n (pc := 1) B dX6_draw_1 rfl ?_
  refine r_geti (pc := 2) B FX6_32 (shW hW) rfl dX6_draw_2 ?_
  refine r_ldc (pc := 5) B q516 dX6_draw_5 ?_
  refine r_imul (pc := 7) B dX6_draw_7 ?_
  refine r_sipush (pc := 8) (x := 12345) B dX6_draw_8 (by decide) ?_
  refine r_iadd (pc := 11) B dX6_draw_11 ?_
  refine r_puti (pc := 12) B PX6_32 (shW hW) rfl dX6_draw_12 ?_
  refine r_aload_n (pc := 15) B dX6_draw_15 rfl ?_
  refine r_geti (pc := 16) B FX6_32 (shW hW) rfl dX6_draw_16 ?_
  refine r_bipush (pc := 19) (x := 8) B dX6_draw_19 (by decide) ?_
  refine r_iushr (pc := 21) B dX6_draw_21 ?_
  exact r_iret (pc := 22) B R dX6_draw_22 ⟨by rw [st2_at], rfl⟩
set_option maxHeartbeats 4000000 in
set_option maxRecDepth 20000 in
theorem c_addUmbrella (l : Launch) (G : GG) (σ : Sg) {W : Nat} (hW : isW W) {n : Nat} (hn8 : n < 8) (hn : σ W 2 = nI n) (k : Int32) : CtI l G mX6_addUmbrella 1 shT [.ref (ad G W), .int k] σ (nI n) (st2 (wrU σ (W + 7 + n) (newU k)) W 2 (nI (n + 1))) := by
  refine ct_intro (by decide) (Nat.le_of_ble_eq_true rfl) (fun X B R => ?_)
  show V X G shT σ [some (.ref (ad G W)), some (.int k), none] [] 0
  refine r_aload_n (pc := 0) B dX6_addUmbrella_0 rfl ?_
  refine r_geti (pc := 1) B FX6_24 (shW hW) rfl dX6_addUmbrella_1 ?_
  rw [hn]
  refine r_istore_2 (pc := 4) B dX6_addUmbrella_4 (by decide) rfl ?_
  refine r_iload_n (pc := 5) B dX6_addUmbrella_5 rfl ?_
  refine r_bipush (pc := 6) (x := 8) B dX6_addUmbrella_6 (by decide) ?_
  refine r_icmp_ge (pc := 8) B 28 dX6_addUmbrella_8 (by decide) (fun h8 => ?_) (fun h8 => ?_)
  · skip
    exact absurd (nI_ge_of (n := 8) (by omega) (by omega) h8) (by omega)
  · skip
    refine r_aload_n (pc := 11) B dX6_addUmbrella_11 rfl ?_
    refine r_getr (pc := 12) B FX6_20 (shW hW) rfl dX6_addUmbrella_12 ?_
    refine r_iload_n (pc := 15) B dX6_addUmbrella_15 rfl ?_
    refine r_aald (pc := 16) B (shWu hW) rfl (ix_nI (N := 8) hn8 (by decide)) (el_u hn8) dX6_addUmbrella_16 ?_
    refine r_iload_n (pc := 17) B dX6_addUmbrella_17 rfl ?_
    refine r_cVv1 (pc := 18) B KX6_55 (c_beNew l G _ (hW.u hn8) _) (shU (hW.u hn8)) rfl (by decide) (Nat.le_of_ble_eq_true rfl) dX6_addUmbrella_18 ?_
    refine r_aload_n (pc := 21) B dX6_addUmbrella_21 rfl ?_
    refine r_iload_n (pc := 22) B dX6_addUmbrella_22 rfl ?_
    refine r_iconst (pc := 23) (x := 1) B dX6_addUmbrella_23 (by decide) ?_
    refine r_iadd (pc := 24) B dX6_addUmbrella_24 ?_
    refine r_puti (pc := 25) B PX6_24 (shW hW) rfl dX6_addUmbrella_25 ?_
    refine r_iload_n (pc := 28) B dX6_addUmbrella_28 rfl ?_
    exact r_iret (pc := 29) B R dX6_addUmbrella_29 ⟨rfl, by rw [nI_1]⟩
set_option maxHeartbeats 4000000 in
set_option maxRecDepth 20000 in
theorem c_passTick (l : Launch) (G : GG) (σ : Sg) {W : Nat} (hW : isW W) {N : Nat} (hN8 : N ≤ 8) (hN : σ W 2 = nI N) : CpI l G mX6_passTick 3 shT [.ref (ad G W)] σ (cntN (vw W σ) N) (fun τ => isWr W σ τ (tickV (vw W σ) N)) := by
  refine ct_intro (by decide) (Nat.le_of_ble_eq_true rfl) (fun X B R => ?_)
  show V X G shT σ [some (.ref (ad G W)), none, none] [] 0
  refine r_iconst (pc := 0) (x := 0) B dX6_passTick_0 (by decide) ?_
  refine r_istore_1 (pc := 1) B dX6_passTick_1 (by decide) rfl ?_
  refine r_iconst (pc := 2) (x := 0) B dX6_passTick_2 (by decide) ?_
  refine r_istore_2 (pc := 3) B dX6_passTick_3 (by decide) rfl ?_
  have hL4 : ∀ (n i : Nat) (q : Int32) (τ : Sg), i ≤ N → N + 1 ≤ i + n → q = cntN (vw W σ) i → isWr W σ τ (goN (vw W σ) i) → V X G shT τ [some (.ref (ad G W)), some (.int q), some (.int (nI i))] [] 4 := by
    intro n
    induction n with
    | zero => intro i q τ h1 h2; omega
    | succ n ih =>
      intro i q τ hi hn hq hw
      have hz : τ W 2 = nI N := by rw [← vw_0 W τ, hw.1 0 (by omega), goN_lo (by omega), vw_0, hN]
      refine r_iload_n (pc := 4) B dX6_passTick_4 rfl ?_
      refine r_aload_n (pc := 5) B dX6_passTick_5 rfl ?_
      refine r_geti (pc := 6) B FX6_24 (shW hW) rfl dX6_passTick_6 ?_
      rw [hz]
      refine r_icmp_ge (pc := 9) B 37 dX6_passTick_9 (by decide) (fun h9 => ?_) (fun h9 => ?_)
      · skip
        have eN : i = N := by have := nI_ge_of (by omega) (by omega) h9; omega
        subst eN
        refine r_aload_n (pc := 37) B dX6_passTick_37 rfl ?_
        refine r_getr (pc := 38) B FX6_12 (shW hW) rfl dX6_passTick_38 ?_
        refine r_iconst (pc := 41) (x := 1) B dX6_passTick_41 (by decide) ?_
        refine r_cVv1 (pc := 42) B KX6_63 (c_nextTick l G _ hW.s _) (shS hW.s) rfl (by decide) (Nat.le_of_ble_eq_true rfl) dX6_passTick_42 ?_
        refine r_iload_n (pc := 45) B dX6_passTick_45 rfl ?_
        exact r_iret (pc := 46) B R dX6_passTick_46 ⟨by rw [hq], wr_tick hw⟩
      · skip
        have hiN : i < N := nI_lt_of (by omega) (by omega) h9
        have hi8 : i < 8 := by omega
        refine r_aload_n (pc := 12) B dX6_passTick_12 rfl ?_
        refine r_getr (pc := 13) B FX6_20 (shW hW) rfl dX6_passTick_13 ?_
        refine r_iload_n (pc := 16) B dX6_passTick_16 rfl ?_
        refine r_aald (pc := 17) B (shWu hW) rfl (ix_nI (N := 8) hi8 (by decide)) (el_u hi8) dX6_passTick_17 ?_
        refine r_aload_n (pc := 18) B dX6_passTick_18 rfl ?_
        refine r_getr (pc := 19) B FX6_12 (shW hW) rfl dX6_passTick_19 ?_
        refine r_cVpi1 (pc := 22) B KX6_59 (c_walkW l G hW hi8 hw) (shU (hW.u hi8)) rfl (by decide) (Nat.le_of_ble_eq_true rfl) dX6_passTick_22 (fun ρ hw2 => ?_)
        refine r_if_eq (pc := 25) B 31 dX6_passTick_25 (by decide) (fun h25 => ?_) (fun h25 => ?_)
        · skip
          refine r_iinc_2 (pc := 31) (y := _ + 1) B dX6_passTick_31 rfl (by decide) rfl ?_
          refine r_goto (pc := 34) B 4 dX6_passTick_34 (by decide) ?_
          rw [nI_1]
          refine ih (i + 1) _ ρ hiN (by omega) ?_ hw2
          first | rw [cntN, ← hq, bI_0.mp h25 |> fun z => (bI_f z).symm, Int32.add_zero] | rw [cntN, ← hq, (bI_t (bI_n.mp h25)).symm]
        · skip
          refine r_iinc_1 (pc := 28) (y := _ + 1) B dX6_passTick_28 rfl (by decide) rfl ?_
          refine r_iinc_2 (pc := 31) (y := _ + 1) B dX6_passTick_31 rfl (by decide) rfl ?_
          refine r_goto (pc := 34) B 4 dX6_passTick_34 (by decide) ?_
          rw [nI_1]
          refine ih (i + 1) _ ρ hiN (by omega) ?_ hw2
          first | rw [cntN, ← hq, bI_0.mp h25 |> fun z => (bI_f z).symm, Int32.add_zero] | rw [cntN, ← hq, (bI_t (bI_n.mp h25)).symm]
  exact hL4 (N + 1) 0 0 σ (by omega) (by omega) rfl (isWr.rf W σ)
set_option maxHeartbeats 4000000 in
set_option maxRecDepth 20000 in
theorem c_setOf (l : Launch) (G : GG) (σ : Sg) {W : Nat} (hW : isW W) {N f : Nat} (hN8 : N ≤ 8) (hN : σ W 2 = nI N) (hf : f < 8) (v : Int32) : CtI l G mX6_setOf 1 shT [.ref (ad G W), .int (nI f), .int v] σ (orS (fun u => σ (W + 7 + u) f = v) (fun _ => inferInstance) N) σ := by
  refine ct_intro (by decide) (Nat.le_of_ble_eq_true rfl) (fun X B R => ?_)
  show V X G shT σ [some (.ref (ad G W)), some (.int (nI f)), some (.int v), none, none] [] 0
  refine r_iconst (pc := 0) (x := 0) B dX6_setOf_0 (by decide) ?_
  refine r_istore_3 (pc := 1) B dX6_setOf_1 (by decide) rfl ?_
  refine r_iconst (pc := 2) (x := 0) B dX6_setOf_2 (by decide) ?_
  refine r_istore_4 (pc := 3) B dX6_setOf_3 (by decide) rfl ?_
  have hL5 : ∀ (n i : Nat) (q : Int32), i ≤ N → N + 1 ≤ i + n → q = orS (fun u => σ (W + 7 + u) f = v) (fun _ => inferInstance) i → V X G shT σ [some (.ref (ad G W)), some (.int (nI f)), some (.int v), some (.int q), some (.int (nI i))] [] 5 := by
    intro n
    induction n with
    | zero => intro i q h1 h2; omega
    | succ n ih =>
      intro i q hi hn hq
      refine r_iload (pc := 5) B dX6_setOf_5 rfl ?_
      refine r_aload_n (pc := 7) B dX6_setOf_7 rfl ?_
      refine r_geti (pc := 8) B FX6_24 (shW hW) rfl dX6_setOf_8 ?_
      rw [hN]
      refine r_icmp_ge (pc := 11) B 42 dX6_setOf_11 (by decide) (fun h11 => ?_) (fun h11 => ?_)
      · skip
        have eN : i = N := by have := nI_ge_of (by omega) (by omega) h11; omega
        subst eN
        refine r_iload_n (pc := 42) B dX6_setOf_42 rfl ?_
        exact r_iret (pc := 43) B R dX6_setOf_43 ⟨by rw [hq], rfl⟩
      · skip
        have hiN : i < N := nI_lt_of (by omega) (by omega) h11
        have hi8 : i < 8 := by omega
        refine r_aload_n (pc := 14) B dX6_setOf_14 rfl ?_
        refine r_getr (pc := 15) B FX6_20 (shW hW) rfl dX6_setOf_15 ?_
        refine r_iload (pc := 18) B dX6_setOf_18 rfl ?_
        refine r_aald (pc := 20) B (shWu hW) rfl (ix_nI (N := 8) hi8 (by decide)) (el_u hi8) dX6_setOf_20 ?_
        refine r_iload_n (pc := 21) B dX6_setOf_21 rfl ?_
        refine r_cVi1 (pc := 22) B KX6_67 (c_mark l G _ (hW.u hi8) hf) (shU (hW.u hi8)) rfl (by decide) (Nat.le_of_ble_eq_true rfl) dX6_setOf_22 ?_
        refine r_iload_n (pc := 25) B dX6_setOf_25 rfl ?_
        refine r_icmp_ne (pc := 26) B 36 dX6_setOf_26 (by decide) (fun h26 => ?_) (fun h26 => ?_)
        · skip
          refine r_iinc_4 (pc := 36) (y := _ + 1) B dX6_setOf_36 rfl (by decide) rfl ?_
          refine r_goto (pc := 39) B 5 dX6_setOf_39 (by decide) ?_
          rw [nI_1]
          exact ih (i + 1) _ hiN (by omega) (by simp [orS, h26, hq])
        · skip
          refine r_iload_n (pc := 29) B dX6_setOf_29 rfl ?_
          refine r_iconst (pc := 30) (x := 1) B dX6_setOf_30 (by decide) ?_
          refine r_iload (pc := 31) B dX6_setOf_31 rfl ?_
          refine r_ishl (pc := 33) B dX6_setOf_33 ?_
          refine r_ior (pc := 34) B dX6_setOf_34 ?_
          refine r_istore_3 (pc := 35) B dX6_setOf_35 (by decide) rfl ?_
          refine r_iinc_4 (pc := 36) (y := _ + 1) B dX6_setOf_36 rfl (by decide) rfl ?_
          refine r_goto (pc := 39) B 5 dX6_setOf_39 (by decide) ?_
          rw [nI_1]
          exact ih (i + 1) _ hiN (by omega) (by simp [orS, h26, hq])
  exact hL5 (N + 1) 0 0 (by omega) (by omega) rfl
set_option maxHeartbeats 4000000 in
set_option maxRecDepth 20000 in
theorem c_sumOf (l : Launch) (G : GG) (σ : Sg) {W : Nat} (hW : isW W) {N f : Nat} (hN8 : N ≤ 8) (hN : σ W 2 = nI N) (hf : f < 8) : CtI l G mX6_sumOf 1 shT [.ref (ad G W), .int (nI f)] σ (sumS (fun u => σ (W + 7 + u) f) N) σ := by
  refine ct_intro (by decide) (Nat.le_of_ble_eq_true rfl) (fun X B R => ?_)
  show V X G shT σ [some (.ref (ad G W)), some (.int (nI f)), none, none] [] 0
  refine r_iconst (pc := 0) (x := 0) B dX6_sumOf_0 (by decide) ?_
  refine r_istore_2 (pc := 1) B dX6_sumOf_1 (by decide) rfl ?_
  refine r_iconst (pc := 2) (x := 0) B dX6_sumOf_2 (by decide) ?_
  refine r_istore_3 (pc := 3) B dX6_sumOf_3 (by decide) rfl ?_
  have hL4 : ∀ (n i : Nat) (q : Int32), i ≤ N → N + 1 ≤ i + n → q = sumS (fun u => σ (W + 7 + u) f) i → V X G shT σ [some (.ref (ad G W)), some (.int (nI f)), some (.int q), some (.int (nI i))] [] 4 := by
    intro n
    induction n with
    | zero => intro i q h1 h2; omega
    | succ n ih =>
      intro i q hi hn hq
      refine r_iload_n (pc := 4) B dX6_sumOf_4 rfl ?_
      refine r_aload_n (pc := 5) B dX6_sumOf_5 rfl ?_
      refine r_geti (pc := 6) B FX6_24 (shW hW) rfl dX6_sumOf_6 ?_
      rw [hN]
      refine r_icmp_ge (pc := 9) B 31 dX6_sumOf_9 (by decide) (fun h9 => ?_) (fun h9 => ?_)
      · skip
        have eN : i = N := by have := nI_ge_of (by omega) (by omega) h9; omega
        subst eN
        refine r_iload_n (pc := 31) B dX6_sumOf_31 rfl ?_
        exact r_iret (pc := 32) B R dX6_sumOf_32 ⟨by rw [hq], rfl⟩
      · skip
        have hiN : i < N := nI_lt_of (by omega) (by omega) h9
        have hi8 : i < 8 := by omega
        refine r_iload_n (pc := 12) B dX6_sumOf_12 rfl ?_
        refine r_aload_n (pc := 13) B dX6_sumOf_13 rfl ?_
        refine r_getr (pc := 14) B FX6_20 (shW hW) rfl dX6_sumOf_14 ?_
        refine r_iload_n (pc := 17) B dX6_sumOf_17 rfl ?_
        refine r_aald (pc := 18) B (shWu hW) rfl (ix_nI (N := 8) hi8 (by decide)) (el_u hi8) dX6_sumOf_18 ?_
        refine r_iload_n (pc := 19) B dX6_sumOf_19 rfl ?_
        refine r_cVi1 (pc := 20) B KX6_67 (c_mark l G _ (hW.u hi8) hf) (shU (hW.u hi8)) rfl (by decide) (Nat.le_of_ble_eq_true rfl) dX6_sumOf_20 ?_
        refine r_iadd (pc := 23) B dX6_sumOf_23 ?_
        refine r_istore_2 (pc := 24) B dX6_sumOf_24 (by decide) rfl ?_
        refine r_iinc_3 (pc := 25) (y := _ + 1) B dX6_sumOf_25 rfl (by decide) rfl ?_
        refine r_goto (pc := 28) B 4 dX6_sumOf_28 (by decide) ?_
        rw [nI_1]
        exact ih (i + 1) _ hiN (by omega) (by rw [sumS, hq])
  exact hL4 (N + 1) 0 0 (by omega) (by omega) rfl
def cnS (f : Nat → Int32) : Nat → Int32
  | 0 => 0
  | n + 1 => if f n = -1 then cnS f n else cnS f n + 1

set_option maxHeartbeats 4000000 in
set_option maxRecDepth 20000 in
theorem c_spotsHolding (l : Launch) (G : GG) (σ : Sg) {W : Nat} (hW : isW W) : CtI l G mX6_spotsHolding 0 shT [.ref (ad G W)] σ (cnS (σ (W + 6)) 10) σ := by
  refine ct_intro (by decide) (Nat.le_of_ble_eq_true rfl) (fun X B R => ?_)
  show V X G shT σ [some (.ref (ad G W)), none, none] [] 0
  refine r_iconst (pc := 0) (x := 0) B dX6_spotsHolding_0 (by decide) ?_
  refine r_istore_1 (pc := 1) B dX6_spotsHolding_1 (by decide) rfl ?_
  refine r_iconst (pc := 2) (x := 0) B dX6_spotsHolding_2 (by decide) ?_
  refine r_istore_2 (pc := 3) B dX6_spotsHolding_3 (by decide) rfl ?_
  have hL4 : ∀ (n i : Nat) (q : Int32), i ≤ 10 → 11 ≤ i + n → q = cnS (σ (W + 6)) i → V X G shT σ [some (.ref (ad G W)), some (.int q), some (.int (nI i))] [] 4 := by
    intro n
    induction n with
    | zero => intro i q h1 h2; omega
    | succ n ih =>
      intro i q hi hn hq
      refine r_iload_n (pc := 4) B dX6_spotsHolding_4 rfl ?_
      refine r_bipush (pc := 5) (x := 10) B dX6_spotsHolding_5 (by decide) ?_
      refine r_icmp_ge (pc := 7) B 29 dX6_spotsHolding_7 (by decide) (fun h7 => ?_) (fun h7 => ?_)
      · skip
        have eN : i = 10 := by have := nI_ge_of (n := 10) (by omega) (by omega) h7; omega
        subst eN
        refine r_iload_n (pc := 29) B dX6_spotsHolding_29 rfl ?_
        exact r_iret (pc := 30) B R dX6_spotsHolding_30 ⟨by rw [hq], rfl⟩
      · skip
        have hiN : i < 10 := nI_lt_of (n := 10) (by omega) (by omega) h7
        refine r_aload_n (pc := 10) B dX6_spotsHolding_10 rfl ?_
        refine r_getr (pc := 11) B FX6_28 (shW hW) rfl dX6_spotsHolding_11 ?_
        refine r_iload_n (pc := 14) B dX6_spotsHolding_14 rfl ?_
        refine r_iald (pc := 15) B (shWp hW) (ix_nI hiN (by decide)) dX6_spotsHolding_15 ?_
        refine r_iconst (pc := 16) (x := (-1)) B dX6_spotsHolding_16 (by decide) ?_
        refine r_icmp_eq (pc := 17) B 23 dX6_spotsHolding_17 (by decide) (fun h17 => ?_) (fun h17 => ?_)
        · skip
          refine r_iinc_2 (pc := 23) (y := _ + 1) B dX6_spotsHolding_23 rfl (by decide) rfl ?_
          refine r_goto (pc := 26) B 4 dX6_spotsHolding_26 (by decide) ?_
          rw [nI_1]
          exact ih (i + 1) _ hiN (by omega) (by simp [cnS, h17, hq])
        · skip
          refine r_iinc_1 (pc := 20) (y := _ + 1) B dX6_spotsHolding_20 rfl (by decide) rfl ?_
          refine r_iinc_2 (pc := 23) (y := _ + 1) B dX6_spotsHolding_23 rfl (by decide) rfl ?_
          refine r_goto (pc := 26) B 4 dX6_spotsHolding_26 (by decide) ?_
          rw [nI_1]
          exact ih (i + 1) _ hiN (by omega) (by simp [cnS, h17, hq])
  exact hL4 11 0 0 (by omega) (by omega) rfl
/-- the first n umbrellas of O come to W -/
def cpUs (σ : Sg) (W O n : Nat) : Sg := fun k i => if W + 7 ≤ k ∧ k < W + 7 + n ∧ i < 8 then σ (O + (k - W)) i else σ k i
theorem wr_become {W O : Nat} (hW : isW W) (hO : isW O) (hne : O ≠ W) (σ : Sg) : isWr W σ (st2 (cp2 (st2 (cpUs (cpSt σ (W + 1) (O + 1)) W O 8) W 2 (σ O 2)) (O + 6) 0 (W + 6) 0 10) W 4 (σ O 4)) (vw O σ) := by
  have ho : O + 15 ≤ W ∨ W + 15 ≤ O := by unfold isW at hW hO; omega
  refine ⟨?_, fun k hk => ?_⟩
  · refine pl_cases ?_ ?_ ?_ ?_ ?_ (fun k hk => ?_) (fun k hk => ?_) (fun k hk => ?_) (fun v i hv hi => ?_) (fun k hk => ?_)
    · simp only [vw_0, st2, cp2_eq, cpUs, cpSt]; grind
    · simp only [vw_1, st2, cp2_eq, cpUs, cpSt]; grind
    · simp only [vw_2, st2, cp2_eq, cpUs, cpSt]; grind
    · simp only [vw_3, st2, cp2_eq, cpUs, cpSt]; grind
    · simp only [vw_4, st2, cp2_eq, cpUs, cpSt]; grind
    · rw [vw_f _ _ hk, vw_f _ _ hk]; simp only [st2, cp2_eq, cpUs, cpSt]; rw [show O + 1 + (W + 2 - (W + 1)) = O + 2 by omega]; grind
    · rw [vw_s _ _ hk, vw_s _ _ hk]; simp only [st2, cp2_eq, cpUs, cpSt]; rw [show O + 1 + (W + 3 - (W + 1)) = O + 3 by omega]; grind
    · rw [vw_r _ _ hk, vw_r _ _ hk]; simp only [st2, cp2_eq, cpUs, cpSt]; rw [show O + 1 + (W + 4 - (W + 1)) = O + 4 by omega]; grind
    · rw [vw_u _ _ hv hi, vw_u _ _ hv hi]; simp only [st2, cp2_eq, cpUs]; rw [show O + (W + 7 + v - W) = O + 7 + v by omega]; simp only [cpSt]; grind
    · rw [vw_p _ _ hk, vw_p _ _ hk]; simp only [st2, cp2_eq, cpUs, cpSt]; grind
  · funext i
    simp only [st2, cp2_eq, cpUs, cpSt]; grind

set_option maxHeartbeats 4000000 in
set_option maxRecDepth 20000 in
theorem c_become (l : Launch) (G : GG) (σ : Sg) {W : Nat} (hW : isW W) {O : Nat} (hO : isW O) (hne : O ≠ W) : CpV l G mX6_become 2 shT [.ref (ad G W), .ref (ad G O)] σ (fun τ => isWr W σ τ (vw O σ)) := by
  have ho : O + 15 ≤ W ∨ W + 15 ≤ O := by unfold isW at hW hO; omega
  refine ct_intro (by decide) (Nat.le_of_ble_eq_true rfl) (fun X B R => ?_)
  show V X G shT σ [some (.ref (ad G W)), some (.ref (ad G O)), none] [] 0
  refine r_aload_n (pc := 0) B dX6_become_0 rfl ?_
  refine r_getr (pc := 1) B FX6_12 (shW hW) rfl dX6_become_1 ?_
  refine r_aload_n (pc := 4) B dX6_become_4 rfl ?_
  refine r_getr (pc := 5) B FX6_12 (shW hO) rfl dX6_become_5 ?_
  refine r_cVv1 (pc := 8) B KX6_42 (c_ssetTo l G _ hW.s hO.s (by omega)) (shS hW.s) rfl (by decide) (Nat.le_of_ble_eq_true rfl) dX6_become_8 ?_
  refine r_iconst (pc := 11) (x := 0) B dX6_become_11 (by decide) ?_
  refine r_istore_2 (pc := 12) B dX6_become_12 (by decide) rfl ?_
  have hL13 : ∀ (n i : Nat), i ≤ 8 → 9 ≤ i + n → V X G shT (cpUs (cpSt σ (W + 1) (O + 1)) W O i) [some (.ref (ad G W)), some (.ref (ad G O)), some (.int (nI i))] [] 13 := by
    intro n
    induction n with
    | zero => intro i h1 h2; omega
    | succ n ih =>
      intro i hi hn
      refine r_iload_n (pc := 13) B dX6_become_13 rfl ?_
      refine r_bipush (pc := 14) (x := 8) B dX6_become_14 (by decide) ?_
      refine r_icmp_ge (pc := 16) B 40 dX6_become_16 (by decide) (fun h16 => ?_) (fun h16 => ?_)
      · skip
        have eN : i = 8 := by have := nI_ge_of (n := 8) (by omega) (by omega) h16; omega
        subst eN
        refine r_aload_n (pc := 40) B dX6_become_40 rfl ?_
        refine r_aload_n (pc := 41) B dX6_become_41 rfl ?_
        refine r_geti (pc := 42) B FX6_24 (shW hO) rfl dX6_become_42 ?_
        have f2 : cpUs (cpSt σ (W + 1) (O + 1)) W O 8 O 2 = σ O 2 := by simp only [cpUs, cpSt]; grind
        refine r_puti (pc := 45) B PX6_24 (shW hW) rfl dX6_become_45 ?_
        refine r_aload_n (pc := 48) B dX6_become_48 rfl ?_
        refine r_getr (pc := 49) B FX6_28 (shW hO) rfl dX6_become_49 ?_
        refine r_iconst (pc := 52) (x := 0) B dX6_become_52 (by decide) ?_
        refine r_aload_n (pc := 53) B dX6_become_53 rfl ?_
        refine r_getr (pc := 54) B FX6_28 (shW hW) rfl dX6_become_54 ?_
        refine r_iconst (pc := 57) (x := 0) B dX6_become_57 (by decide) ?_
        refine r_bipush (pc := 58) (x := 10) B dX6_become_58 (by decide) ?_
        refine r_copy (pc := 60) (sj := 0) (dj := 0) (nj := 10) B q553 ⟨q407, q406, q12⟩ (by decide) (Nat.le_of_ble_eq_true rfl) (shWp hO) (shWp hW) (by decide) (by decide) (by decide) (by decide) (by decide) dX6_become_60 ?_
        refine r_aload_n (pc := 63) B dX6_become_63 rfl ?_
        refine r_aload_n (pc := 64) B dX6_become_64 rfl ?_
        refine r_geti (pc := 65) B FX6_32 (shW hO) rfl dX6_become_65 ?_
        have f4 : cp2 (st2 (cpUs (cpSt σ (W + 1) (O + 1)) W O 8) W 2 (cpUs (cpSt σ (W + 1) (O + 1)) W O 8 O 2)) (O + 6) 0 (W + 6) 0 10 O 4 = σ O 4 := by simp only [cp2_eq, st2, cpUs, cpSt]; grind
        refine r_puti (pc := 68) B PX6_32 (shW hW) rfl dX6_become_68 ?_
        exact r_vret (pc := 71) B R dX6_become_71 ⟨rfl, by rw [f4, f2]; exact wr_become hW hO hne σ⟩
      · skip
        have hi8 : i < 8 := nI_lt_of (n := 8) (by omega) (by omega) h16
        refine r_aload_n (pc := 19) B dX6_become_19 rfl ?_
        refine r_getr (pc := 20) B FX6_20 (shW hW) rfl dX6_become_20 ?_
        refine r_iload_n (pc := 23) B dX6_become_23 rfl ?_
        refine r_aald (pc := 24) B (shWu hW) rfl (ix_nI (N := 8) hi8 (by decide)) (el_u hi8) dX6_become_24 ?_
        refine r_aload_n (pc := 25) B dX6_become_25 rfl ?_
        refine r_getr (pc := 26) B FX6_20 (shW hO) rfl dX6_become_26 ?_
        refine r_iload_n (pc := 29) B dX6_become_29 rfl ?_
        refine r_aald (pc := 30) B (shWu hO) rfl (ix_nI (N := 8) hi8 (by decide)) (el_u hi8) dX6_become_30 ?_
        refine r_cVv1 (pc := 31) B KX6_46 (c_usetTo l G _ (hW.u hi8) (hO.u hi8) (by omega)) (shU (hW.u hi8)) rfl (by decide) (Nat.le_of_ble_eq_true rfl) dX6_become_31 ?_
        refine r_iinc_2 (pc := 34) (y := _ + 1) B dX6_become_34 rfl (by decide) rfl ?_
        refine r_goto (pc := 37) B 13 dX6_become_37 (by decide) ?_
        rw [nI_1]
        rw [show wrU (cpUs (cpSt σ (W + 1) (O + 1)) W O i) (W + 7 + i) (cpUs (cpSt σ (W + 1) (O + 1)) W O i (O + 7 + i)) = cpUs (cpSt σ (W + 1) (O + 1)) W O (i + 1) by clear ih B R; funext a b; simp only [wrU, cpUs, cpSt]; grind]
        exact ih (i + 1) hi8 (by omega)
  rw [show cpSt σ (W + 1) (O + 1) = cpUs (cpSt σ (W + 1) (O + 1)) W O 0 by funext k i; simp only [cpUs]; rw [if_neg (by omega)]]
  exact hL13 9 0 (by omega) (by omega)

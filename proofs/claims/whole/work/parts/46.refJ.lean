/-! the reference's words are the words -/
theorem wd_0 {σ : Sg} {L : Nat} {t : TS} : wdP (σ 71) L t 0 ↔ (wL t 3 ∧ h3P (bF σ L t) 0 98 105 103) := by
  constructor
  · rintro ⟨h1, h2, h3⟩
    exact ⟨⟨h1, h2⟩, ⟨(h3 0 (by decide)).symm, (h3 1 (by decide)).symm, (h3 2 (by decide)).symm⟩⟩
  · rintro ⟨⟨h1, h2⟩, e⟩
    refine ⟨h1, h2, fun j hj => ?_⟩
    have hj2 : j < 3 := hj
    match j, hj2 with
    | 0, _ => exact (e.1).symm
    | 1, _ => exact (e.2.1).symm
    | 2, _ => exact (e.2.2).symm
theorem wd_1 {σ : Sg} {L : Nat} {t : TS} : wdP (σ 71) L t 1 ↔ (wL t 5 ∧ h3P (bF σ L t) 0 115 109 97 ∧ h3P (bF σ L t) 2 97 108 108) := by
  constructor
  · rintro ⟨h1, h2, h3⟩
    exact ⟨⟨h1, h2⟩, ⟨(h3 0 (by decide)).symm, (h3 1 (by decide)).symm, (h3 2 (by decide)).symm⟩, ⟨(h3 2 (by decide)).symm, (h3 3 (by decide)).symm, (h3 4 (by decide)).symm⟩⟩
  · rintro ⟨⟨h1, h2⟩, e⟩
    refine ⟨h1, h2, fun j hj => ?_⟩
    have hj2 : j < 5 := hj
    match j, hj2 with
    | 0, _ => exact (e.1.1).symm
    | 1, _ => exact (e.1.2.1).symm
    | 2, _ => exact (e.1.2.2).symm
    | 3, _ => exact (e.2.2.1).symm
    | 4, _ => exact (e.2.2.2).symm
theorem wd_2 {σ : Sg} {L : Nat} {t : TS} : wdP (σ 71) L t 2 ↔ (wL t 4 ∧ h3P (bF σ L t) 0 98 101 110 ∧ h3P (bF σ L t) 1 101 110 116) := by
  constructor
  · rintro ⟨h1, h2, h3⟩
    exact ⟨⟨h1, h2⟩, ⟨(h3 0 (by decide)).symm, (h3 1 (by decide)).symm, (h3 2 (by decide)).symm⟩, ⟨(h3 1 (by decide)).symm, (h3 2 (by decide)).symm, (h3 3 (by decide)).symm⟩⟩
  · rintro ⟨⟨h1, h2⟩, e⟩
    refine ⟨h1, h2, fun j hj => ?_⟩
    have hj2 : j < 4 := hj
    match j, hj2 with
    | 0, _ => exact (e.1.1).symm
    | 1, _ => exact (e.1.2.1).symm
    | 2, _ => exact (e.1.2.2).symm
    | 3, _ => exact (e.2.2.2).symm
theorem wd_3 {σ : Sg} {L : Nat} {t : TS} : wdP (σ 71) L t 3 ↔ (wL t 6 ∧ h3P (bF σ L t) 0 98 105 110 ∧ h3P (bF σ L t) 3 110 101 100) := by
  constructor
  · rintro ⟨h1, h2, h3⟩
    exact ⟨⟨h1, h2⟩, ⟨(h3 0 (by decide)).symm, (h3 1 (by decide)).symm, (h3 2 (by decide)).symm⟩, ⟨(h3 3 (by decide)).symm, (h3 4 (by decide)).symm, (h3 5 (by decide)).symm⟩⟩
  · rintro ⟨⟨h1, h2⟩, e⟩
    refine ⟨h1, h2, fun j hj => ?_⟩
    have hj2 : j < 6 := hj
    match j, hj2 with
    | 0, _ => exact (e.1.1).symm
    | 1, _ => exact (e.1.2.1).symm
    | 2, _ => exact (e.1.2.2).symm
    | 3, _ => exact (e.2.1).symm
    | 4, _ => exact (e.2.2.1).symm
    | 5, _ => exact (e.2.2.2).symm
theorem wd_4 {σ : Sg} {L : Nat} {t : TS} : wdP (σ 71) L t 4 ↔ (wL t 5 ∧ h3P (bF σ L t) 0 112 97 112 ∧ h3P (bF σ L t) 2 112 101 114) := by
  constructor
  · rintro ⟨h1, h2, h3⟩
    exact ⟨⟨h1, h2⟩, ⟨(h3 0 (by decide)).symm, (h3 1 (by decide)).symm, (h3 2 (by decide)).symm⟩, ⟨(h3 2 (by decide)).symm, (h3 3 (by decide)).symm, (h3 4 (by decide)).symm⟩⟩
  · rintro ⟨⟨h1, h2⟩, e⟩
    refine ⟨h1, h2, fun j hj => ?_⟩
    have hj2 : j < 5 := hj
    match j, hj2 with
    | 0, _ => exact (e.1.1).symm
    | 1, _ => exact (e.1.2.1).symm
    | 2, _ => exact (e.1.2.2).symm
    | 3, _ => exact (e.2.2.1).symm
    | 4, _ => exact (e.2.2.2).symm
theorem wd_5 {σ : Sg} {L : Nat} {t : TS} : wdP (σ 71) L t 5 ↔ (wL t 4 ∧ h3P (bF σ L t) 0 103 111 108 ∧ h3P (bF σ L t) 1 111 108 102) := by
  constructor
  · rintro ⟨h1, h2, h3⟩
    exact ⟨⟨h1, h2⟩, ⟨(h3 0 (by decide)).symm, (h3 1 (by decide)).symm, (h3 2 (by decide)).symm⟩, ⟨(h3 1 (by decide)).symm, (h3 2 (by decide)).symm, (h3 3 (by decide)).symm⟩⟩
  · rintro ⟨⟨h1, h2⟩, e⟩
    refine ⟨h1, h2, fun j hj => ?_⟩
    have hj2 : j < 4 := hj
    match j, hj2 with
    | 0, _ => exact (e.1.1).symm
    | 1, _ => exact (e.1.2.1).symm
    | 2, _ => exact (e.1.2.2).symm
    | 3, _ => exact (e.2.2.2).symm
theorem wd_6 {σ : Sg} {L : Nat} {t : TS} : wdP (σ 71) L t 6 ↔ (wL t 8 ∧ h3P (bF σ L t) 0 117 109 98 ∧ h3P (bF σ L t) 3 114 101 108 ∧ h3P (bF σ L t) 5 108 108 97) := by
  constructor
  · rintro ⟨h1, h2, h3⟩
    exact ⟨⟨h1, h2⟩, ⟨(h3 0 (by decide)).symm, (h3 1 (by decide)).symm, (h3 2 (by decide)).symm⟩, ⟨(h3 3 (by decide)).symm, (h3 4 (by decide)).symm, (h3 5 (by decide)).symm⟩, ⟨(h3 5 (by decide)).symm, (h3 6 (by decide)).symm, (h3 7 (by decide)).symm⟩⟩
  · rintro ⟨⟨h1, h2⟩, e⟩
    refine ⟨h1, h2, fun j hj => ?_⟩
    have hj2 : j < 8 := hj
    match j, hj2 with
    | 0, _ => exact (e.1.1).symm
    | 1, _ => exact (e.1.2.1).symm
    | 2, _ => exact (e.1.2.2).symm
    | 3, _ => exact (e.2.1.1).symm
    | 4, _ => exact (e.2.1.2.1).symm
    | 5, _ => exact (e.2.1.2.2).symm
    | 6, _ => exact (e.2.2.2.1).symm
    | 7, _ => exact (e.2.2.2.2).symm
theorem wd_7 {σ : Sg} {L : Nat} {t : TS} : wdP (σ 71) L t 7 ↔ (wL t 2 ∧ bF σ L t 0 = 97 ∧ bF σ L t 1 = 116) := by
  constructor
  · rintro ⟨h1, h2, h3⟩
    exact ⟨⟨h1, h2⟩, (h3 0 (by decide)).symm, (h3 1 (by decide)).symm⟩
  · rintro ⟨⟨h1, h2⟩, e⟩
    refine ⟨h1, h2, fun j hj => ?_⟩
    have hj2 : j < 2 := hj
    match j, hj2 with
    | 0, _ => exact (e.1).symm
    | 1, _ => exact (e.2).symm
theorem wd_8 {σ : Sg} {L : Nat} {t : TS} : wdP (σ 71) L t 8 ↔ (wL t 4 ∧ h3P (bF σ L t) 0 114 105 98 ∧ h3P (bF σ L t) 1 105 98 115) := by
  constructor
  · rintro ⟨h1, h2, h3⟩
    exact ⟨⟨h1, h2⟩, ⟨(h3 0 (by decide)).symm, (h3 1 (by decide)).symm, (h3 2 (by decide)).symm⟩, ⟨(h3 1 (by decide)).symm, (h3 2 (by decide)).symm, (h3 3 (by decide)).symm⟩⟩
  · rintro ⟨⟨h1, h2⟩, e⟩
    refine ⟨h1, h2, fun j hj => ?_⟩
    have hj2 : j < 4 := hj
    match j, hj2 with
    | 0, _ => exact (e.1.1).symm
    | 1, _ => exact (e.1.2.1).symm
    | 2, _ => exact (e.1.2.2).symm
    | 3, _ => exact (e.2.2.2).symm
theorem wd_9 {σ : Sg} {L : Nat} {t : TS} : wdP (σ 71) L t 9 ↔ (wL t 4 ∧ h3P (bF σ L t) 0 104 101 108 ∧ h3P (bF σ L t) 1 101 108 100) := by
  constructor
  · rintro ⟨h1, h2, h3⟩
    exact ⟨⟨h1, h2⟩, ⟨(h3 0 (by decide)).symm, (h3 1 (by decide)).symm, (h3 2 (by decide)).symm⟩, ⟨(h3 1 (by decide)).symm, (h3 2 (by decide)).symm, (h3 3 (by decide)).symm⟩⟩
  · rintro ⟨⟨h1, h2⟩, e⟩
    refine ⟨h1, h2, fun j hj => ?_⟩
    have hj2 : j < 4 := hj
    match j, hj2 with
    | 0, _ => exact (e.1.1).symm
    | 1, _ => exact (e.1.2.1).symm
    | 2, _ => exact (e.1.2.2).symm
    | 3, _ => exact (e.2.2.2).symm
theorem wd_10 {σ : Sg} {L : Nat} {t : TS} : wdP (σ 71) L t 10 ↔ (wL t 5 ∧ h3P (bF σ L t) 0 104 97 98 ∧ h3P (bF σ L t) 2 98 105 116) := by
  constructor
  · rintro ⟨h1, h2, h3⟩
    exact ⟨⟨h1, h2⟩, ⟨(h3 0 (by decide)).symm, (h3 1 (by decide)).symm, (h3 2 (by decide)).symm⟩, ⟨(h3 2 (by decide)).symm, (h3 3 (by decide)).symm, (h3 4 (by decide)).symm⟩⟩
  · rintro ⟨⟨h1, h2⟩, e⟩
    refine ⟨h1, h2, fun j hj => ?_⟩
    have hj2 : j < 5 := hj
    match j, hj2 with
    | 0, _ => exact (e.1.1).symm
    | 1, _ => exact (e.1.2.1).symm
    | 2, _ => exact (e.1.2.2).symm
    | 3, _ => exact (e.2.2.1).symm
    | 4, _ => exact (e.2.2.2).symm
theorem wd_11 {σ : Sg} {L : Nat} {t : TS} : wdP (σ 71) L t 11 ↔ (wL t 4 ∧ h3P (bF σ L t) 0 108 101 102 ∧ h3P (bF σ L t) 1 101 102 116) := by
  constructor
  · rintro ⟨h1, h2, h3⟩
    exact ⟨⟨h1, h2⟩, ⟨(h3 0 (by decide)).symm, (h3 1 (by decide)).symm, (h3 2 (by decide)).symm⟩, ⟨(h3 1 (by decide)).symm, (h3 2 (by decide)).symm, (h3 3 (by decide)).symm⟩⟩
  · rintro ⟨⟨h1, h2⟩, e⟩
    refine ⟨h1, h2, fun j hj => ?_⟩
    have hj2 : j < 4 := hj
    match j, hj2 with
    | 0, _ => exact (e.1.1).symm
    | 1, _ => exact (e.1.2.1).symm
    | 2, _ => exact (e.1.2.2).symm
    | 3, _ => exact (e.2.2.2).symm
theorem wd_12 {σ : Sg} {L : Nat} {t : TS} : wdP (σ 71) L t 12 ↔ (wL t 5 ∧ h3P (bF σ L t) 0 114 105 103 ∧ h3P (bF σ L t) 2 103 104 116) := by
  constructor
  · rintro ⟨h1, h2, h3⟩
    exact ⟨⟨h1, h2⟩, ⟨(h3 0 (by decide)).symm, (h3 1 (by decide)).symm, (h3 2 (by decide)).symm⟩, ⟨(h3 2 (by decide)).symm, (h3 3 (by decide)).symm, (h3 4 (by decide)).symm⟩⟩
  · rintro ⟨⟨h1, h2⟩, e⟩
    refine ⟨h1, h2, fun j hj => ?_⟩
    have hj2 : j < 5 := hj
    match j, hj2 with
    | 0, _ => exact (e.1.1).symm
    | 1, _ => exact (e.1.2.1).symm
    | 2, _ => exact (e.1.2.2).symm
    | 3, _ => exact (e.2.2.1).symm
    | 4, _ => exact (e.2.2.2).symm
theorem wd_13 {σ : Sg} {L : Nat} {t : TS} : wdP (σ 71) L t 13 ↔ (wL t 5 ∧ h3P (bF σ L t) 0 98 101 108 ∧ h3P (bF σ L t) 2 108 111 119) := by
  constructor
  · rintro ⟨h1, h2, h3⟩
    exact ⟨⟨h1, h2⟩, ⟨(h3 0 (by decide)).symm, (h3 1 (by decide)).symm, (h3 2 (by decide)).symm⟩, ⟨(h3 2 (by decide)).symm, (h3 3 (by decide)).symm, (h3 4 (by decide)).symm⟩⟩
  · rintro ⟨⟨h1, h2⟩, e⟩
    refine ⟨h1, h2, fun j hj => ?_⟩
    have hj2 : j < 5 := hj
    match j, hj2 with
    | 0, _ => exact (e.1.1).symm
    | 1, _ => exact (e.1.2.1).symm
    | 2, _ => exact (e.1.2.2).symm
    | 3, _ => exact (e.2.2.1).symm
    | 4, _ => exact (e.2.2.2).symm
theorem wd_14 {σ : Sg} {L : Nat} {t : TS} : wdP (σ 71) L t 14 ↔ (wL t 4 ∧ h3P (bF σ L t) 0 114 111 111 ∧ h3P (bF σ L t) 1 111 111 102) := by
  constructor
  · rintro ⟨h1, h2, h3⟩
    exact ⟨⟨h1, h2⟩, ⟨(h3 0 (by decide)).symm, (h3 1 (by decide)).symm, (h3 2 (by decide)).symm⟩, ⟨(h3 1 (by decide)).symm, (h3 2 (by decide)).symm, (h3 3 (by decide)).symm⟩⟩
  · rintro ⟨⟨h1, h2⟩, e⟩
    refine ⟨h1, h2, fun j hj => ?_⟩
    have hj2 : j < 4 := hj
    match j, hj2 with
    | 0, _ => exact (e.1.1).symm
    | 1, _ => exact (e.1.2.1).symm
    | 2, _ => exact (e.1.2.2).symm
    | 3, _ => exact (e.2.2.2).symm
theorem wd_15 {σ : Sg} {L : Nat} {t : TS} : wdP (σ 71) L t 15 ↔ (wL t 4 ∧ h3P (bF σ L t) 0 111 112 101 ∧ h3P (bF σ L t) 1 112 101 110) := by
  constructor
  · rintro ⟨h1, h2, h3⟩
    exact ⟨⟨h1, h2⟩, ⟨(h3 0 (by decide)).symm, (h3 1 (by decide)).symm, (h3 2 (by decide)).symm⟩, ⟨(h3 1 (by decide)).symm, (h3 2 (by decide)).symm, (h3 3 (by decide)).symm⟩⟩
  · rintro ⟨⟨h1, h2⟩, e⟩
    refine ⟨h1, h2, fun j hj => ?_⟩
    have hj2 : j < 4 := hj
    match j, hj2 with
    | 0, _ => exact (e.1.1).symm
    | 1, _ => exact (e.1.2.1).symm
    | 2, _ => exact (e.1.2.2).symm
    | 3, _ => exact (e.2.2.2).symm
theorem wd_16 {σ : Sg} {L : Nat} {t : TS} : wdP (σ 71) L t 16 ↔ (wL t 4 ∧ h3P (bF σ L t) 0 114 97 105 ∧ h3P (bF σ L t) 1 97 105 110) := by
  constructor
  · rintro ⟨h1, h2, h3⟩
    exact ⟨⟨h1, h2⟩, ⟨(h3 0 (by decide)).symm, (h3 1 (by decide)).symm, (h3 2 (by decide)).symm⟩, ⟨(h3 1 (by decide)).symm, (h3 2 (by decide)).symm, (h3 3 (by decide)).symm⟩⟩
  · rintro ⟨⟨h1, h2⟩, e⟩
    refine ⟨h1, h2, fun j hj => ?_⟩
    have hj2 : j < 4 := hj
    match j, hj2 with
    | 0, _ => exact (e.1.1).symm
    | 1, _ => exact (e.1.2.1).symm
    | 2, _ => exact (e.1.2.2).symm
    | 3, _ => exact (e.2.2.2).symm
theorem wd_17 {σ : Sg} {L : Nat} {t : TS} : wdP (σ 71) L t 17 ↔ (wL t 4 ∧ h3P (bF σ L t) 0 103 117 115 ∧ h3P (bF σ L t) 1 117 115 116) := by
  constructor
  · rintro ⟨h1, h2, h3⟩
    exact ⟨⟨h1, h2⟩, ⟨(h3 0 (by decide)).symm, (h3 1 (by decide)).symm, (h3 2 (by decide)).symm⟩, ⟨(h3 1 (by decide)).symm, (h3 2 (by decide)).symm, (h3 3 (by decide)).symm⟩⟩
  · rintro ⟨⟨h1, h2⟩, e⟩
    refine ⟨h1, h2, fun j hj => ?_⟩
    have hj2 : j < 4 := hj
    match j, hj2 with
    | 0, _ => exact (e.1.1).symm
    | 1, _ => exact (e.1.2.1).symm
    | 2, _ => exact (e.1.2.2).symm
    | 3, _ => exact (e.2.2.2).symm
def khR (by1 : Nat → Int32) (L : Nat) (t : TS) : Int32 := match fdN (fun a => wdP by1 L t (kS a)) (fun _ => inferInstance) 7 0 with
  | some a => nI a
  | none => -1
theorem kh_cs {by1 : Nat → Int32} {L : Nat} {t : TS} : khR by1 L t = if wdP by1 L t 6 then 0 else if wdP by1 L t 0 then 1 else if wdP by1 L t 1 then 2 else if wdP by1 L t 2 then 3 else if wdP by1 L t 3 then 4 else if wdP by1 L t 4 then 5 else if wdP by1 L t 5 then 6 else -1 := by
  unfold khR
  simp only [fdN]
  show (match (if wdP by1 L t 6 then some 0 else if wdP by1 L t 0 then some 1 else if wdP by1 L t 1 then some 2 else if wdP by1 L t 2 then some 3 else if wdP by1 L t 3 then some 4 else if wdP by1 L t 4 then some 5 else if wdP by1 L t 5 then some 6 else none : Option Nat) with | some a => nI a | none => -1) = _
  by_cases h6 : wdP by1 L t 6
  · rw [if_pos h6, if_pos h6]; rfl
  rw [if_neg h6, if_neg h6]
  by_cases h0 : wdP by1 L t 0
  · rw [if_pos h0, if_pos h0]; rfl
  rw [if_neg h0, if_neg h0]
  by_cases h1 : wdP by1 L t 1
  · rw [if_pos h1, if_pos h1]; rfl
  rw [if_neg h1, if_neg h1]
  by_cases h2 : wdP by1 L t 2
  · rw [if_pos h2, if_pos h2]; rfl
  rw [if_neg h2, if_neg h2]
  by_cases h3 : wdP by1 L t 3
  · rw [if_pos h3, if_pos h3]; rfl
  rw [if_neg h3, if_neg h3]
  by_cases h4 : wdP by1 L t 4
  · rw [if_pos h4, if_pos h4]; rfl
  rw [if_neg h4, if_neg h4]
  by_cases h5 : wdP by1 L t 5
  · rw [if_pos h5, if_pos h5]; rfl
  rw [if_neg h5, if_neg h5]

set_option maxHeartbeats 4000000 in
set_option maxRecDepth 20000 in
theorem e_kindHere (l : Launch) (G : GG) (σ : Sg) {L : Nat} {t : TS} (h : tS σ L t) : CtI l G mX8_kindHere 3 shT [.ref (ad G 65)] σ (khR (σ 71) L t) σ := by
  refine ct_intro (by decide) (Nat.le_of_ble_eq_true rfl) (fun X B R => ?_)
  show V X G shT σ [some (.ref (ad G 65))] [] 0
  have hJ77 : ¬ wdP (σ 71) L t 6 → ¬ wdP (σ 71) L t 0 → V X G shT σ [some (.ref (ad G 65))] [] 77 := by
    intro n6 n0
    refine r_aload_n (pc := 77) B dX8_kindHere_77 rfl ?_
    refine r_bipush (pc := 78) (x := 115) B dX8_kindHere_78 (by decide) ?_
    refine r_bipush (pc := 80) (x := 109) B dX8_kindHere_80 (by decide) ?_
    refine r_bipush (pc := 82) (x := 97) B dX8_kindHere_82 (by decide) ?_
    refine r_bipush (pc := 84) (x := 108) B dX8_kindHere_84 (by decide) ?_
    refine r_bipush (pc := 86) (x := 108) B dX8_kindHere_86 (by decide) ?_
    refine r_cVi5 (pc := 88) B KX8_247 (e_isFive l G _ h _ _ _ _ _) rfl rfl (by decide) (Nat.le_of_ble_eq_true rfl) dX8_kindHere_88 ?_
    refine r_if_eq (pc := 91) B 96 dX8_kindHere_91 (by decide) (fun h91 => ?_) (fun h91 => ?_)
    · skip
      have n1 : ¬ wdP (σ 71) L t 1 := fun q => bI_0.mp h91 (wd_1.mp q)
      refine r_aload_n (pc := 96) B dX8_kindHere_96 rfl ?_
      refine r_bipush (pc := 97) (x := 98) B dX8_kindHere_97 (by decide) ?_
      refine r_bipush (pc := 99) (x := 101) B dX8_kindHere_99 (by decide) ?_
      refine r_bipush (pc := 101) (x := 110) B dX8_kindHere_101 (by decide) ?_
      refine r_bipush (pc := 103) (x := 116) B dX8_kindHere_103 (by decide) ?_
      refine r_cVi4 (pc := 105) B KX8_251 (e_isFour l G _ h _ _ _ _) rfl rfl (by decide) (Nat.le_of_ble_eq_true rfl) dX8_kindHere_105 ?_
      refine r_if_eq (pc := 108) B 113 dX8_kindHere_108 (by decide) (fun h108 => ?_) (fun h108 => ?_)
      · skip
        have n2 : ¬ wdP (σ 71) L t 2 := fun q => bI_0.mp h108 (wd_2.mp q)
        refine r_aload_n (pc := 113) B dX8_kindHere_113 rfl ?_
        refine r_bipush (pc := 114) (x := 98) B dX8_kindHere_114 (by decide) ?_
        refine r_bipush (pc := 116) (x := 105) B dX8_kindHere_116 (by decide) ?_
        refine r_bipush (pc := 118) (x := 110) B dX8_kindHere_118 (by decide) ?_
        refine r_bipush (pc := 120) (x := 110) B dX8_kindHere_120 (by decide) ?_
        refine r_bipush (pc := 122) (x := 101) B dX8_kindHere_122 (by decide) ?_
        refine r_bipush (pc := 124) (x := 100) B dX8_kindHere_124 (by decide) ?_
        refine r_cVi6 (pc := 126) B KX8_254 (e_isSix l G _ h _ _ _ _ _ _) rfl rfl (by decide) (Nat.le_of_ble_eq_true rfl) dX8_kindHere_126 ?_
        refine r_if_eq (pc := 129) B 134 dX8_kindHere_129 (by decide) (fun h129 => ?_) (fun h129 => ?_)
        · skip
          have n3 : ¬ wdP (σ 71) L t 3 := fun q => bI_0.mp h129 (wd_3.mp q)
          refine r_aload_n (pc := 134) B dX8_kindHere_134 rfl ?_
          refine r_bipush (pc := 135) (x := 112) B dX8_kindHere_135 (by decide) ?_
          refine r_bipush (pc := 137) (x := 97) B dX8_kindHere_137 (by decide) ?_
          refine r_bipush (pc := 139) (x := 112) B dX8_kindHere_139 (by decide) ?_
          refine r_bipush (pc := 141) (x := 101) B dX8_kindHere_141 (by decide) ?_
          refine r_bipush (pc := 143) (x := 114) B dX8_kindHere_143 (by decide) ?_
          refine r_cVi5 (pc := 145) B KX8_247 (e_isFive l G _ h _ _ _ _ _) rfl rfl (by decide) (Nat.le_of_ble_eq_true rfl) dX8_kindHere_145 ?_
          refine r_if_eq (pc := 148) B 153 dX8_kindHere_148 (by decide) (fun h148 => ?_) (fun h148 => ?_)
          · skip
            have n4 : ¬ wdP (σ 71) L t 4 := fun q => bI_0.mp h148 (wd_4.mp q)
            refine r_aload_n (pc := 153) B dX8_kindHere_153 rfl ?_
            refine r_bipush (pc := 154) (x := 103) B dX8_kindHere_154 (by decide) ?_
            refine r_bipush (pc := 156) (x := 111) B dX8_kindHere_156 (by decide) ?_
            refine r_bipush (pc := 158) (x := 108) B dX8_kindHere_158 (by decide) ?_
            refine r_bipush (pc := 160) (x := 102) B dX8_kindHere_160 (by decide) ?_
            refine r_cVi4 (pc := 162) B KX8_251 (e_isFour l G _ h _ _ _ _) rfl rfl (by decide) (Nat.le_of_ble_eq_true rfl) dX8_kindHere_162 ?_
            refine r_if_eq (pc := 165) B 173 dX8_kindHere_165 (by decide) (fun h165 => ?_) (fun h165 => ?_)
            · skip
              have n5 : ¬ wdP (σ 71) L t 5 := fun q => bI_0.mp h165 (wd_5.mp q)
              refine r_iconst (pc := 173) (x := (-1)) B dX8_kindHere_173 (by decide) ?_
              exact r_iret (pc := 174) B R dX8_kindHere_174 ⟨by first | rw [kh_cs, if_neg n6, if_neg n0, if_neg n1, if_neg n2, if_neg n3, if_neg n4, if_pos y5] | rw [kh_cs, if_neg n6, if_neg n0, if_neg n1, if_neg n2, if_neg n3, if_neg n4, if_neg n5], rfl⟩
            · skip
              have y5 : wdP (σ 71) L t 5 := wd_5.mpr (bI_n.mp h165)
              refine r_bipush (pc := 168) (x := 6) B dX8_kindHere_168 (by decide) ?_
              refine r_goto (pc := 170) B 174 dX8_kindHere_170 (by decide) ?_
              exact r_iret (pc := 174) B R dX8_kindHere_174 ⟨by first | rw [kh_cs, if_neg n6, if_neg n0, if_neg n1, if_neg n2, if_neg n3, if_neg n4, if_pos y5] | rw [kh_cs, if_neg n6, if_neg n0, if_neg n1, if_neg n2, if_neg n3, if_neg n4, if_neg n5], rfl⟩
          · skip
            refine r_iconst (pc := 151) (x := 5) B dX8_kindHere_151 (by decide) ?_
            exact r_iret (pc := 152) B R dX8_kindHere_152 ⟨by rw [kh_cs, if_neg n6, if_neg n0, if_neg n1, if_neg n2, if_neg n3, if_pos (wd_4.mpr (bI_n.mp h148))], rfl⟩
        · skip
          refine r_iconst (pc := 132) (x := 4) B dX8_kindHere_132 (by decide) ?_
          exact r_iret (pc := 133) B R dX8_kindHere_133 ⟨by rw [kh_cs, if_neg n6, if_neg n0, if_neg n1, if_neg n2, if_pos (wd_3.mpr (bI_n.mp h129))], rfl⟩
      · skip
        refine r_iconst (pc := 111) (x := 3) B dX8_kindHere_111 (by decide) ?_
        exact r_iret (pc := 112) B R dX8_kindHere_112 ⟨by rw [kh_cs, if_neg n6, if_neg n0, if_neg n1, if_pos (wd_2.mpr (bI_n.mp h108))], rfl⟩
    · skip
      refine r_iconst (pc := 94) (x := 2) B dX8_kindHere_94 (by decide) ?_
      exact r_iret (pc := 95) B R dX8_kindHere_95 ⟨by rw [kh_cs, if_neg n6, if_neg n0, if_pos (wd_1.mpr (bI_n.mp h91))], rfl⟩
  have hJ53 : ¬ wdP (σ 71) L t 6 → V X G shT σ [some (.ref (ad G 65))] [] 53 := by
    intro n6
    refine r_aload_n (pc := 53) B dX8_kindHere_53 rfl ?_
    refine r_iconst (pc := 54) (x := 3) B dX8_kindHere_54 (by decide) ?_
    refine r_cVi1 (pc := 55) B KX8_236 (e_isWord l G _ h (n := 3) rfl (by decide)) rfl rfl (by decide) (Nat.le_of_ble_eq_true rfl) dX8_kindHere_55 ?_
    refine r_if_eq (pc := 58) B 77 dX8_kindHere_58 (by decide) (fun h58 => ?_) (fun h58 => ?_)
    · skip
      exact hJ77 n6 (fun q => by have z := wd_0.mp q; first | exact bI_0.mp h58 z.1 | exact bI_0.mp h72 z.2)
    · skip
      refine r_aload_n (pc := 61) B dX8_kindHere_61 rfl ?_
      refine r_iconst (pc := 62) (x := 0) B dX8_kindHere_62 (by decide) ?_
      refine r_bipush (pc := 63) (x := 98) B dX8_kindHere_63 (by decide) ?_
      refine r_bipush (pc := 65) (x := 105) B dX8_kindHere_65 (by decide) ?_
      refine r_bipush (pc := 67) (x := 103) B dX8_kindHere_67 (by decide) ?_
      refine r_cVi4 (pc := 69) B KX8_239 (e_has3 l G _ h (i := 0) rfl (by decide) _ _ _) rfl rfl (by decide) (Nat.le_of_ble_eq_true rfl) dX8_kindHere_69 ?_
      refine r_if_eq (pc := 72) B 77 dX8_kindHere_72 (by decide) (fun h72 => ?_) (fun h72 => ?_)
      · skip
        exact hJ77 n6 (fun q => by have z := wd_0.mp q; first | exact bI_0.mp h58 z.1 | exact bI_0.mp h72 z.2)
      · skip
        refine r_iconst (pc := 75) (x := 1) B dX8_kindHere_75 (by decide) ?_
        exact r_iret (pc := 76) B R dX8_kindHere_76 ⟨by rw [kh_cs, if_neg n6, if_pos (wd_0.mpr ⟨bI_n.mp h58, bI_n.mp h72⟩)], rfl⟩
  refine r_aload_n (pc := 0) B dX8_kindHere_0 rfl ?_
  refine r_bipush (pc := 1) (x := 8) B dX8_kindHere_1 (by decide) ?_
  refine r_cVi1 (pc := 3) B KX8_236 (e_isWord l G _ h (n := 8) rfl (by decide)) rfl rfl (by decide) (Nat.le_of_ble_eq_true rfl) dX8_kindHere_3 ?_
  refine r_if_eq (pc := 6) B 53 dX8_kindHere_6 (by decide) (fun h6 => ?_) (fun h6 => ?_)
  · skip
    exact hJ53 (fun q => by have z := wd_6.mp q; first | exact bI_0.mp h6 z.1 | exact bI_0.mp h20 z.2.1 | exact bI_0.mp h34 z.2.2.1 | exact bI_0.mp h48 z.2.2.2)
  · skip
    refine r_aload_n (pc := 9) B dX8_kindHere_9 rfl ?_
    refine r_iconst (pc := 10) (x := 0) B dX8_kindHere_10 (by decide) ?_
    refine r_bipush (pc := 11) (x := 117) B dX8_kindHere_11 (by decide) ?_
    refine r_bipush (pc := 13) (x := 109) B dX8_kindHere_13 (by decide) ?_
    refine r_bipush (pc := 15) (x := 98) B dX8_kindHere_15 (by decide) ?_
    refine r_cVi4 (pc := 17) B KX8_239 (e_has3 l G _ h (i := 0) rfl (by decide) _ _ _) rfl rfl (by decide) (Nat.le_of_ble_eq_true rfl) dX8_kindHere_17 ?_
    refine r_if_eq (pc := 20) B 53 dX8_kindHere_20 (by decide) (fun h20 => ?_) (fun h20 => ?_)
    · skip
      exact hJ53 (fun q => by have z := wd_6.mp q; first | exact bI_0.mp h6 z.1 | exact bI_0.mp h20 z.2.1 | exact bI_0.mp h34 z.2.2.1 | exact bI_0.mp h48 z.2.2.2)
    · skip
      refine r_aload_n (pc := 23) B dX8_kindHere_23 rfl ?_
      refine r_iconst (pc := 24) (x := 3) B dX8_kindHere_24 (by decide) ?_
      refine r_bipush (pc := 25) (x := 114) B dX8_kindHere_25 (by decide) ?_
      refine r_bipush (pc := 27) (x := 101) B dX8_kindHere_27 (by decide) ?_
      refine r_bipush (pc := 29) (x := 108) B dX8_kindHere_29 (by decide) ?_
      refine r_cVi4 (pc := 31) B KX8_239 (e_has3 l G _ h (i := 3) rfl (by decide) _ _ _) rfl rfl (by decide) (Nat.le_of_ble_eq_true rfl) dX8_kindHere_31 ?_
      refine r_if_eq (pc := 34) B 53 dX8_kindHere_34 (by decide) (fun h34 => ?_) (fun h34 => ?_)
      · skip
        exact hJ53 (fun q => by have z := wd_6.mp q; first | exact bI_0.mp h6 z.1 | exact bI_0.mp h20 z.2.1 | exact bI_0.mp h34 z.2.2.1 | exact bI_0.mp h48 z.2.2.2)
      · skip
        refine r_aload_n (pc := 37) B dX8_kindHere_37 rfl ?_
        refine r_iconst (pc := 38) (x := 5) B dX8_kindHere_38 (by decide) ?_
        refine r_bipush (pc := 39) (x := 108) B dX8_kindHere_39 (by decide) ?_
        refine r_bipush (pc := 41) (x := 108) B dX8_kindHere_41 (by decide) ?_
        refine r_bipush (pc := 43) (x := 97) B dX8_kindHere_43 (by decide) ?_
        refine r_cVi4 (pc := 45) B KX8_239 (e_has3 l G _ h (i := 5) rfl (by decide) _ _ _) rfl rfl (by decide) (Nat.le_of_ble_eq_true rfl) dX8_kindHere_45 ?_
        refine r_if_eq (pc := 48) B 53 dX8_kindHere_48 (by decide) (fun h48 => ?_) (fun h48 => ?_)
        · skip
          exact hJ53 (fun q => by have z := wd_6.mp q; first | exact bI_0.mp h6 z.1 | exact bI_0.mp h20 z.2.1 | exact bI_0.mp h34 z.2.2.1 | exact bI_0.mp h48 z.2.2.2)
        · skip
          refine r_iconst (pc := 51) (x := 0) B dX8_kindHere_51 (by decide) ?_
          exact r_iret (pc := 52) B R dX8_kindHere_52 ⟨by rw [kh_cs, if_pos (wd_6.mpr ⟨bI_n.mp h6, bI_n.mp h20, bI_n.mp h34, bI_n.mp h48⟩)], rfl⟩

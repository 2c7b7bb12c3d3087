/-! pairs: what looks ahead -/
theorem kw_in {k : Nat} {a : Int32} (hk : k = 7 ∨ k = 6 ∨ k = 4) (ha : a = nI k) : a = 7 ∨ a = 6 ∨ a = 4 := by
  subst ha
  rcases hk with rfl | rfl | rfl <;> decide
theorem ah_in {k : Nat} {a : Int32} (h1 : 1 ≤ k) (h8 : k < 8) (ha : a = nI k) : ¬ a < 1 ∧ ¬ 7 < a := by
  subst ha
  exact ⟨fun q => by have := (nI_ltI (b := 1) (by omega) (by omega)).mp q; omega, fun q => by have := (nI_ltI (a := 7) (by omega) (by omega)).mp q; omega⟩
theorem or_cg {p q : Nat → Prop} {dp : ∀ n, Decidable (p n)} {dq : ∀ n, Decidable (q n)} : ∀ n, (∀ k, k < n → (p k ↔ q k)) → orS p dp n = orS q dq n
  | 0, _ => rfl
  | n + 1, h => by
    simp only [orS]
    rw [or_cg n (fun k hk => h k (by omega))]
    have e := h n (by omega)
    by_cases z : q n
    · rw [if_pos z, if_pos (e.mpr z)]
    · rw [if_neg z, if_neg (fun y => z (e.mp y))]
theorem p_home (l : Launch) (G : GG) {i : Nat} {σ : Sg} (I : Inv i σ) (hi : i ≤ 512) (x : Int32) : Pr l G i σ mX7_home 5 mX8_home 7 [.int x] := by
  obtain ⟨N, t, hN8, hN, hS, hW, ht, ht1⟩ := I.1.1.2
  have e0 := I.2.1
  have E := fun (τ : Sg) (e : τ 66 = vw 1 σ) => e_home l G τ hN8 (by rw [e]; exact hN) (by rw [e]; exact hW) (t := t) (by omega) (by rw [e]; exact ht1) x
  refine (c_home l G σ hN8 hN x).mono (fun r τ hc => ?_)
  rcases hc with ⟨hn, rfl, hτ⟩ | ⟨u, hu, hx, ⟨h16, rfl, hw⟩ | ⟨h16, rfl, ρ, hw, hτ⟩⟩
  · have e66 : τ 66 = vw 1 σ := by rw [hτ]; exact (fnd_ne (by omega)).trans e0
    try subst hτ
    refine ⟨_, rfl, (E _ e66).mono (fun r' υ he => ?_)⟩
    have hN' := (congrFun e66 0).trans hN
    try rw [e66] at he
    rcases he with ⟨-, rfl, rfl⟩ | ⟨u, hu, hx, -⟩
    · skip
      exact ⟨rfl, o_fq I.1 (by decide)⟩
    · skip
      exact absurd (um_in hN hN8 hu hx) hn
  · have e66 : τ 66 = vw 1 σ := (hw 66 (by omega)).trans e0
    try subst hτ
    refine ⟨_, rfl, (E _ e66).mono (fun r' υ he => ?_)⟩
    have hN' := (congrFun e66 0).trans hN
    try rw [e66] at he
    rcases he with ⟨hn, -⟩ | ⟨v, hv, hy, ⟨-, rfl, hr⟩ | ⟨h, -⟩⟩
    · skip
      exact absurd (um_in hN' hN8 hu hx) hn
    · skip
      obtain rfl := nI_u hy hx (by omega) (by omega)
      exact ⟨rfl, o_wk I.1 hw hr⟩
    · skip
      obtain rfl := nI_u hy hx (by omega) (by omega)
      exact absurd h16 h
  · have e66 : τ 66 = vw 1 σ := by rw [hτ]; exact ((fnd_ne (by omega)).trans (hw 66 (by omega))).trans e0
    try subst hτ
    refine ⟨_, rfl, (E _ e66).mono (fun r' υ he => ?_)⟩
    have hN' := (congrFun e66 0).trans hN
    try rw [e66] at he
    rcases he with ⟨hn, -⟩ | ⟨v, hv, hy, ⟨h, -⟩ | ⟨-, rfl, ρ2, hr, rfl⟩⟩
    · skip
      exact absurd (um_in hN' hN8 hu hx) hn
    · skip
      obtain rfl := nI_u hy hx (by omega) (by omega)
      exact absurd h h16
    · skip
      exact ⟨rfl, o_fw I.1 (by decide) hw hr⟩
theorem p_homeWith (l : Launch) (G : GG) {i : Nat} {σ : Sg} (I : Inv i σ) (hi : i ≤ 512) (x a : Int32) : Pr l G i σ mX7_homeWith 5 mX8_homeWith 7 [.int x, .int a] := by
  obtain ⟨N, t, hN8, hN, hS, hW, ht, ht1⟩ := I.1.1.2
  have e0 := I.2.1
  have E := fun (τ : Sg) (e : τ 66 = vw 1 σ) => e_homeWith l G τ hN8 (by rw [e]; exact hN) (by rw [e]; exact hW) (t := t) (by omega) (by rw [e]; exact ht1) x a
  refine (c_homeWith l G σ hN8 hN x a).mono (fun r τ hc => ?_)
  rcases hc with ⟨hn, rfl, hτ⟩ | ⟨u, k, hu, hx, hk, ha, ⟨h16, rfl, hw⟩ | ⟨h16, rfl, ρ, hw, hτ⟩⟩
  · have e66 : τ 66 = vw 1 σ := by rw [hτ]; exact (fnd_ne (by omega)).trans e0
    try subst hτ
    refine ⟨_, rfl, (E _ e66).mono (fun r' υ he => ?_)⟩
    have hN' := (congrFun e66 0).trans hN
    try rw [e66] at he
    rcases he with ⟨-, rfl, rfl⟩ | ⟨u, k, hu, hx, hk, ha, -⟩
    · skip
      exact ⟨rfl, o_fq I.1 (by decide)⟩
    · skip
      exact absurd ⟨um_in hN hN8 hu hx, kw_in hk ha⟩ hn
  · have e66 : τ 66 = vw 1 σ := (hw 66 (by omega)).trans e0
    try subst hτ
    refine ⟨_, rfl, (E _ e66).mono (fun r' υ he => ?_)⟩
    have hN' := (congrFun e66 0).trans hN
    try rw [e66] at he
    rcases he with ⟨hn, -⟩ | ⟨v, k2, hv, hy, hk2, ha2, ⟨-, rfl, hr⟩ | ⟨h, -⟩⟩
    · skip
      exact absurd ⟨um_in hN' hN8 hu hx, kw_in hk ha⟩ hn
    · skip
      obtain rfl := nI_u hy hx (by omega) (by omega)
      obtain rfl := nI_u ha2 ha (by omega) (by omega)
      exact ⟨rfl, o_wk I.1 hw hr⟩
    · skip
      obtain rfl := nI_u hy hx (by omega) (by omega)
      exact absurd h16 h
  · have e66 : τ 66 = vw 1 σ := by rw [hτ]; exact ((fnd_ne (by omega)).trans (hw 66 (by omega))).trans e0
    try subst hτ
    refine ⟨_, rfl, (E _ e66).mono (fun r' υ he => ?_)⟩
    have hN' := (congrFun e66 0).trans hN
    try rw [e66] at he
    rcases he with ⟨hn, -⟩ | ⟨v, k2, hv, hy, hk2, ha2, ⟨h, -⟩ | ⟨-, rfl, ρ2, hr, rfl⟩⟩
    · skip
      exact absurd ⟨um_in hN' hN8 hu hx, kw_in hk ha⟩ hn
    · skip
      obtain rfl := nI_u hy hx (by omega) (by omega)
      exact absurd h h16
    · skip
      exact ⟨rfl, o_fw I.1 (by decide) hw hr⟩
theorem p_whup (l : Launch) (G : GG) {i : Nat} {σ : Sg} (I : Inv i σ) (hi : i ≤ 512) (x : Int32) : Pr l G i σ mX7_whup 5 mX8_whup 6 [.int x] := by
  obtain ⟨N, t, hN8, hN, hS, hW, ht, ht1⟩ := I.1.1.2
  have e0 := I.2.1
  have E := fun (τ : Sg) (e : τ 66 = vw 1 σ) => e_whup l G τ hN8 (by rw [e]; exact hN) (by rw [e]; exact hW) (t := t) (by omega) (by rw [e]; exact ht1) x
  refine (c_whup l G σ hN8 hN x).mono (fun r τ hc => ?_)
  rcases hc with ⟨hn, rfl, hτ⟩ | ⟨u, hu, hx, ⟨n, h1, rfl, hw⟩ | ⟨h1, rfl, ρ, hw, hτ⟩⟩
  · have e66 : τ 66 = vw 1 σ := by rw [hτ]; exact (fnd_ne (by omega)).trans e0
    try subst hτ
    refine ⟨_, rfl, (E _ e66).mono (fun r' υ he => ?_)⟩
    have hN' := (congrFun e66 0).trans hN
    try rw [e66] at he
    rcases he with ⟨-, rfl, rfl⟩ | ⟨u, hu, hx, -⟩
    · skip
      exact ⟨rfl, o_fq I.1 (by decide)⟩
    · skip
      exact absurd (um_in hN hN8 hu hx) hn
  · have e66 : τ 66 = vw 1 σ := (hw 66 (by omega)).trans e0
    try subst hτ
    refine ⟨_, rfl, (E _ e66).mono (fun r' υ he => ?_)⟩
    have hN' := (congrFun e66 0).trans hN
    try rw [e66] at he
    rcases he with ⟨hn, -⟩ | ⟨v, hv, hy, ⟨m, h2, rfl, hr⟩ | ⟨h, -⟩⟩
    · skip
      exact absurd (um_in hN' hN8 hu hx) hn
    · skip
      obtain rfl := nI_u hy hx (by omega) (by omega)
      obtain rfl := Option.some.inj (h1.symm.trans h2)
      exact ⟨rfl, o_wk I.1 hw hr⟩
    · skip
      obtain rfl := nI_u hy hx (by omega) (by omega)
      exact absurd (h.symm.trans h1) (by simp)
  · have e66 : τ 66 = vw 1 σ := by rw [hτ]; exact ((fnd_ne (by omega)).trans (hw 66 (by omega))).trans e0
    try subst hτ
    refine ⟨_, rfl, (E _ e66).mono (fun r' υ he => ?_)⟩
    have hN' := (congrFun e66 0).trans hN
    try rw [e66] at he
    rcases he with ⟨hn, -⟩ | ⟨v, hv, hy, ⟨m, h2, -⟩ | ⟨-, rfl, ρ2, hr, rfl⟩⟩
    · skip
      exact absurd (um_in hN' hN8 hu hx) hn
    · skip
      obtain rfl := nI_u hy hx (by omega) (by omega)
      exact absurd (h1.symm.trans h2) (by simp)
    · skip
      exact ⟨rfl, o_fw I.1 (by decide) hw hr⟩
theorem p_ahead (l : Launch) (G : GG) {i : Nat} {σ : Sg} (I : Inv i σ) (hi : i ≤ 512) (x a n : Int32) : Pr l G i σ mX7_ahead 4 mX8_ahead 6 [.int x, .int a, .int n] := by
  obtain ⟨N, t, hN8, hN, hS, hW, ht, ht1⟩ := I.1.1.2
  have e0 := I.2.1
  have E := fun (τ : Sg) (e : τ 66 = vw 1 σ) => e_ahead l G τ hN8 (by rw [e]; exact hN) (by rw [e]; exact hW) (t := t) (by omega) (by rw [e]; exact ht1) x a n
  refine (c_ahead l G σ hN8 hN x a n).mono (fun r τ hc => ?_)
  rcases hc with ⟨hn, rfl, hτ⟩ | ⟨u, k, m, hu, hx, k1, k8, ha, hm, hnn, hw, rfl⟩
  · have e66 : τ 66 = vw 1 σ := by rw [hτ]; exact (fnd_ne (by omega)).trans e0
    try subst hτ
    refine ⟨_, rfl, (E _ e66).mono (fun r' υ he => ?_)⟩
    have hN' := (congrFun e66 0).trans hN
    try rw [e66] at he
    rcases he with ⟨-, rfl, rfl⟩ | ⟨u, k, m, hu, hx, k1, k8, ha, hm, hnn, -⟩
    · skip
      exact ⟨rfl, o_fq I.1 (by decide)⟩
    · skip
      exact absurd ⟨um_in hN hN8 hu hx, (ah_in k1 k8 ha).1, (ah_in k1 k8 ha).2, wi_in (g := 100) hnn hm (by omega)⟩ hn
  · have e66 : τ 66 = vw 1 σ := (hw 66 (by omega)).trans e0
    try subst hτ
    refine ⟨_, rfl, (E _ e66).mono (fun r' υ he => ?_)⟩
    have hN' := (congrFun e66 0).trans hN
    try rw [e66] at he
    rcases he with ⟨hn, -⟩ | ⟨v, k2, m2, hv, hy, k12, k82, ha2, hm2, hnn2, hr, rfl⟩
    · skip
      exact absurd ⟨um_in hN' hN8 hu hx, (ah_in k1 k8 ha).1, (ah_in k1 k8 ha).2, wi_in (g := 100) hnn hm (by omega)⟩ hn
    · skip
      obtain rfl := nI_u hy hx (by omega) (by omega)
      obtain rfl := nI_u ha2 ha (by omega) (by omega)
      obtain rfl := nI_u hnn2 hnn (by omega) (by omega)
      exact ⟨rfl, o_wk I.1 hw hr⟩
theorem p_habitFor (l : Launch) (G : GG) {i : Nat} {σ : Sg} (I : Inv i σ) (hi : i ≤ 512) (x : Int32) : Pr l G i σ mX7_habitFor 6 mX8_habitFor 9 [.int x] := by
  obtain ⟨N, t, hN8, hN, hS, hW, ht, ht1⟩ := I.1.1.2
  have e0 := I.2.1
  have E := fun (τ : Sg) (e : τ 66 = vw 1 σ) => e_habitFor l G τ hN8 (by rw [e]; exact hN) (by rw [e]; exact hW) (t := t) (by omega) (by rw [e]; exact ht1) x
  refine (c_habitFor l G σ hN8 hN x).mono (fun r τ hc => ?_)
  rcases hc with ⟨hn, rfl, hτ⟩ | ⟨u, hu, hx, ⟨hd, rfl, ρ, hw, hτ⟩ | ⟨hd, rfl, hw⟩⟩
  · have e66 : τ 66 = vw 1 σ := by rw [hτ]; exact (fnd_ne (by omega)).trans e0
    try subst hτ
    refine ⟨_, rfl, (E _ e66).mono (fun r' υ he => ?_)⟩
    have hN' := (congrFun e66 0).trans hN
    try rw [e66] at he
    rcases he with ⟨-, rfl, rfl⟩ | ⟨u, hu, hx, -⟩
    · skip
      exact ⟨rfl, o_fq I.1 (by decide)⟩
    · skip
      exact absurd (um_in hN hN8 hu hx) hn
  · have e66 : τ 66 = vw 1 σ := by rw [hτ]; exact ((fnd_ne (by omega)).trans (hw 66 (by omega))).trans e0
    try subst hτ
    refine ⟨_, rfl, (E _ e66).mono (fun r' υ he => ?_)⟩
    have hN' := (congrFun e66 0).trans hN
    try rw [e66] at he
    rcases he with ⟨hn, -⟩ | ⟨v, hv, hy, ⟨-, rfl, ρ2, hr, rfl⟩ | ⟨h, -⟩⟩
    · skip
      exact absurd (um_in hN' hN8 hu hx) hn
    · skip
      exact ⟨rfl, o_fw I.1 (by decide) hw hr⟩
    · skip
      obtain rfl := nI_u hy hx (by omega) (by omega)
      exact absurd hd h
  · have e66 : τ 66 = vw 1 σ := (hw 66 (by omega)).trans e0
    try subst hτ
    refine ⟨_, rfl, (E _ e66).mono (fun r' υ he => ?_)⟩
    have hN' := (congrFun e66 0).trans hN
    try rw [e66] at he
    rcases he with ⟨hn, -⟩ | ⟨v, hv, hy, ⟨h, -⟩ | ⟨-, rfl, hr⟩⟩
    · skip
      exact absurd (um_in hN' hN8 hu hx) hn
    · skip
      obtain rfl := nI_u hy hx (by omega) (by omega)
      exact absurd h hd
    · skip
      obtain rfl := nI_u hy hx (by omega) (by omega)
      exact ⟨rfl, o_wk I.1 hw hr⟩
theorem p_heldFor (l : Launch) (G : GG) {i : Nat} {σ : Sg} (I : Inv i σ) (hi : i ≤ 512) (x : Int32) : Pr l G i σ mX7_heldFor 6 mX8_heldFor 9 [.int x] := by
  obtain ⟨N, t, hN8, hN, hS, hW, ht, ht1⟩ := I.1.1.2
  have e0 := I.2.1
  have E := fun (τ : Sg) (e : τ 66 = vw 1 σ) => e_heldFor l G τ hN8 (by rw [e]; exact hN) (by rw [e]; exact hW) (t := t) (by omega) (by rw [e]; exact ht1) x
  refine (c_heldFor l G σ hN8 hN x).mono (fun r τ hc => ?_)
  rcases hc with ⟨hn, rfl, hτ⟩ | ⟨u, hu, hx, ⟨hd, rfl, ρ, hw, hτ⟩ | ⟨hd, rfl, hw⟩⟩
  · have e66 : τ 66 = vw 1 σ := by rw [hτ]; exact (fnd_ne (by omega)).trans e0
    try subst hτ
    refine ⟨_, rfl, (E _ e66).mono (fun r' υ he => ?_)⟩
    have hN' := (congrFun e66 0).trans hN
    try rw [e66] at he
    rcases he with ⟨-, rfl, rfl⟩ | ⟨u, hu, hx, -⟩
    · skip
      exact ⟨rfl, o_fq I.1 (by decide)⟩
    · skip
      exact absurd (um_in hN hN8 hu hx) hn
  · have e66 : τ 66 = vw 1 σ := by rw [hτ]; exact ((fnd_ne (by omega)).trans (hw 66 (by omega))).trans e0
    try subst hτ
    refine ⟨_, rfl, (E _ e66).mono (fun r' υ he => ?_)⟩
    have hN' := (congrFun e66 0).trans hN
    try rw [e66] at he
    rcases he with ⟨hn, -⟩ | ⟨v, hv, hy, ⟨-, rfl, ρ2, hr, rfl⟩ | ⟨h, -⟩⟩
    · skip
      exact absurd (um_in hN' hN8 hu hx) hn
    · skip
      exact ⟨rfl, o_fw I.1 (by decide) hw hr⟩
    · skip
      obtain rfl := nI_u hy hx (by omega) (by omega)
      exact absurd hd h
  · have e66 : τ 66 = vw 1 σ := (hw 66 (by omega)).trans e0
    try subst hτ
    refine ⟨_, rfl, (E _ e66).mono (fun r' υ he => ?_)⟩
    have hN' := (congrFun e66 0).trans hN
    try rw [e66] at he
    rcases he with ⟨hn, -⟩ | ⟨v, hv, hy, ⟨h, -⟩ | ⟨-, rfl, hr⟩⟩
    · skip
      exact absurd (um_in hN' hN8 hu hx) hn
    · skip
      obtain rfl := nI_u hy hx (by omega) (by omega)
      exact absurd h hd
    · skip
      obtain rfl := nI_u hy hx (by omega) (by omega)
      exact ⟨rfl, o_wk I.1 hw hr⟩
theorem p_kindFor (l : Launch) (G : GG) {i : Nat} {σ : Sg} (I : Inv i σ) (hi : i ≤ 512) (x : Int32) : Pr l G i σ mX7_kindFor 6 mX8_kindFor 9 [.int x] := by
  obtain ⟨N, t, hN8, hN, hS, hW, ht, ht1⟩ := I.1.1.2
  have e0 := I.2.1
  have E := fun (τ : Sg) (e : τ 66 = vw 1 σ) => e_kindFor l G τ hN8 (by rw [e]; exact hN) (by rw [e]; exact hW) (t := t) (by omega) (by rw [e]; exact ht1) x
  refine (c_kindFor l G σ hN8 hN x).mono (fun r τ hc => ?_)
  rcases hc with ⟨hn, rfl, hτ⟩ | ⟨u, hu, hx, ⟨hd, rfl, ρ, hw, hτ⟩ | ⟨hd, rfl, hw⟩⟩
  · have e66 : τ 66 = vw 1 σ := by rw [hτ]; exact (fnd_ne (by omega)).trans e0
    try subst hτ
    refine ⟨_, rfl, (E _ e66).mono (fun r' υ he => ?_)⟩
    have hN' := (congrFun e66 0).trans hN
    try rw [e66] at he
    rcases he with ⟨-, rfl, rfl⟩ | ⟨u, hu, hx, -⟩
    · skip
      exact ⟨rfl, o_fq I.1 (by decide)⟩
    · skip
      exact absurd (um_in hN hN8 hu hx) hn
  · have e66 : τ 66 = vw 1 σ := by rw [hτ]; exact ((fnd_ne (by omega)).trans (hw 66 (by omega))).trans e0
    try subst hτ
    refine ⟨_, rfl, (E _ e66).mono (fun r' υ he => ?_)⟩
    have hN' := (congrFun e66 0).trans hN
    try rw [e66] at he
    rcases he with ⟨hn, -⟩ | ⟨v, hv, hy, ⟨-, rfl, ρ2, hr, rfl⟩ | ⟨h, -⟩⟩
    · skip
      exact absurd (um_in hN' hN8 hu hx) hn
    · skip
      exact ⟨rfl, o_fw I.1 (by decide) hw hr⟩
    · skip
      obtain rfl := nI_u hy hx (by omega) (by omega)
      exact absurd hd h
  · have e66 : τ 66 = vw 1 σ := (hw 66 (by omega)).trans e0
    try subst hτ
    refine ⟨_, rfl, (E _ e66).mono (fun r' υ he => ?_)⟩
    have hN' := (congrFun e66 0).trans hN
    try rw [e66] at he
    rcases he with ⟨hn, -⟩ | ⟨v, hv, hy, ⟨h, -⟩ | ⟨-, rfl, hr⟩⟩
    · skip
      exact absurd (um_in hN' hN8 hu hx) hn
    · skip
      obtain rfl := nI_u hy hx (by omega) (by omega)
      exact absurd h hd
    · skip
      obtain rfl := nI_u hy hx (by omega) (by omega)
      exact ⟨rfl, o_wk I.1 hw hr⟩
theorem p_roofFor (l : Launch) (G : GG) {i : Nat} {σ : Sg} (I : Inv i σ) (hi : i ≤ 512) (x : Int32) : Pr l G i σ mX7_roofFor 6 mX8_roofFor 8 [.int x] := by
  obtain ⟨N, t, hN8, hN, hS, hW, ht, ht1⟩ := I.1.1.2
  have e0 := I.2.1
  have E := fun (τ : Sg) (e : τ 66 = vw 1 σ) => e_roofFor l G τ hN8 (by rw [e]; exact hN) (by rw [e]; exact hW) (t := t) (by omega) (by rw [e]; exact ht1) x
  refine (c_roofFor l G σ hN8 hN x).mono (fun r τ hc => ?_)
  rcases hc with ⟨hn, rfl, hτ⟩ | ⟨u, hu, hx, ⟨hd, rfl, ρ, hw, hτ⟩ | ⟨hd, rfl, hw⟩⟩
  · have e66 : τ 66 = vw 1 σ := by rw [hτ]; exact (fnd_ne (by omega)).trans e0
    try subst hτ
    refine ⟨_, rfl, (E _ e66).mono (fun r' υ he => ?_)⟩
    have hN' := (congrFun e66 0).trans hN
    try rw [e66] at he
    rcases he with ⟨-, rfl, rfl⟩ | ⟨u, hu, hx, -⟩
    · skip
      exact ⟨rfl, o_fq I.1 (by decide)⟩
    · skip
      exact absurd (um_in hN hN8 hu hx) hn
  · have e66 : τ 66 = vw 1 σ := by rw [hτ]; exact ((fnd_ne (by omega)).trans (hw 66 (by omega))).trans e0
    try subst hτ
    refine ⟨_, rfl, (E _ e66).mono (fun r' υ he => ?_)⟩
    have hN' := (congrFun e66 0).trans hN
    try rw [e66] at he
    rcases he with ⟨hn, -⟩ | ⟨v, hv, hy, ⟨-, rfl, ρ2, hr, rfl⟩ | ⟨h, -⟩⟩
    · skip
      exact absurd (um_in hN' hN8 hu hx) hn
    · skip
      exact ⟨rfl, o_fw I.1 (by decide) hw hr⟩
    · skip
      obtain rfl := nI_u hy hx (by omega) (by omega)
      exact absurd hd h
  · have e66 : τ 66 = vw 1 σ := (hw 66 (by omega)).trans e0
    try subst hτ
    refine ⟨_, rfl, (E _ e66).mono (fun r' υ he => ?_)⟩
    have hN' := (congrFun e66 0).trans hN
    try rw [e66] at he
    rcases he with ⟨hn, -⟩ | ⟨v, hv, hy, ⟨h, -⟩ | ⟨-, rfl, hr⟩⟩
    · skip
      exact absurd (um_in hN' hN8 hu hx) hn
    · skip
      obtain rfl := nI_u hy hx (by omega) (by omega)
      exact absurd h hd
    · skip
      obtain rfl := nI_u hy hx (by omega) (by omega)
      exact ⟨rfl, o_wk I.1 hw hr⟩
theorem p_waitFor (l : Launch) (G : GG) {i : Nat} {σ : Sg} (I : Inv i σ) (hi : i ≤ 512) (x : Int32) : Pr l G i σ mX7_waitFor 6 mX8_waitFor 8 [.int x] := by
  obtain ⟨N, t, hN8, hN, hS, hW, ht, ht1⟩ := I.1.1.2
  have e0 := I.2.1
  have E := fun (τ : Sg) (e : τ 66 = vw 1 σ) => e_waitFor l G τ hN8 (by rw [e]; exact hN) (by rw [e]; exact hW) (t := t) (by omega) (by rw [e]; exact ht1) x
  refine (c_waitFor l G σ hN8 hN x).mono (fun r τ hc => ?_)
  rcases hc with ⟨hn, rfl, hτ⟩ | ⟨u, hu, hx, ⟨hd, rfl, ρ, hw, hτ⟩ | ⟨hd, rfl, hw⟩⟩
  · have e66 : τ 66 = vw 1 σ := by rw [hτ]; exact (fnd_ne (by omega)).trans e0
    try subst hτ
    refine ⟨_, rfl, (E _ e66).mono (fun r' υ he => ?_)⟩
    have hN' := (congrFun e66 0).trans hN
    try rw [e66] at he
    rcases he with ⟨-, rfl, rfl⟩ | ⟨u, hu, hx, -⟩
    · skip
      exact ⟨rfl, o_fq I.1 (by decide)⟩
    · skip
      exact absurd (um_in hN hN8 hu hx) hn
  · have e66 : τ 66 = vw 1 σ := by rw [hτ]; exact ((fnd_ne (by omega)).trans (hw 66 (by omega))).trans e0
    try subst hτ
    refine ⟨_, rfl, (E _ e66).mono (fun r' υ he => ?_)⟩
    have hN' := (congrFun e66 0).trans hN
    try rw [e66] at he
    rcases he with ⟨hn, -⟩ | ⟨v, hv, hy, ⟨-, rfl, ρ2, hr, rfl⟩ | ⟨h, -⟩⟩
    · skip
      exact absurd (um_in hN' hN8 hu hx) hn
    · skip
      exact ⟨rfl, o_fw I.1 (by decide) hw hr⟩
    · skip
      obtain rfl := nI_u hy hx (by omega) (by omega)
      exact absurd hd h
  · have e66 : τ 66 = vw 1 σ := (hw 66 (by omega)).trans e0
    try subst hτ
    refine ⟨_, rfl, (E _ e66).mono (fun r' υ he => ?_)⟩
    have hN' := (congrFun e66 0).trans hN
    try rw [e66] at he
    rcases he with ⟨hn, -⟩ | ⟨v, hv, hy, ⟨h, -⟩ | ⟨-, rfl, hr⟩⟩
    · skip
      exact absurd (um_in hN' hN8 hu hx) hn
    · skip
      obtain rfl := nI_u hy hx (by omega) (by omega)
      exact absurd h hd
    · skip
      obtain rfl := nI_u hy hx (by omega) (by omega)
      exact ⟨rfl, o_wk I.1 hw hr⟩
theorem p_gustFor (l : Launch) (G : GG) {i : Nat} {σ : Sg} (I : Inv i σ) (hi : i ≤ 512) (x : Int32) : Pr l G i σ mX7_gustFor 5 mX8_gustFor 8 [.int x] := by
  obtain ⟨N, t, hN8, hN, hS, hW, ht, ht1⟩ := I.1.1.2
  have e0 := I.2.1
  have E := fun (τ : Sg) (e : τ 66 = vw 1 σ) => e_gustFor l G τ hN8 (by rw [e]; exact hN) (by rw [e]; exact hW) (t := t) (by omega) (by rw [e]; exact ht1) x
  refine (c_gustFor l G σ hN8 hN x).mono (fun r τ hc => ?_)
  rcases hc with ⟨hn, rfl, hτ⟩ | ⟨u, hu, hx, ⟨hd, rfl, ρ, hw, hτ⟩ | ⟨g, hd, rfl, hw⟩⟩
  · have e66 : τ 66 = vw 1 σ := by rw [hτ]; exact (fnd_ne (by omega)).trans e0
    try subst hτ
    refine ⟨_, rfl, (E _ e66).mono (fun r' υ he => ?_)⟩
    have hN' := (congrFun e66 0).trans hN
    try rw [e66] at he
    rcases he with ⟨-, rfl, rfl⟩ | ⟨u, hu, hx, -⟩
    · skip
      exact ⟨rfl, o_fq I.1 (by decide)⟩
    · skip
      exact absurd (um_in hN hN8 hu hx) hn
  · have e66 : τ 66 = vw 1 σ := by rw [hτ]; exact ((fnd_ne (by omega)).trans (hw 66 (by omega))).trans e0
    try subst hτ
    refine ⟨_, rfl, (E _ e66).mono (fun r' υ he => ?_)⟩
    have hN' := (congrFun e66 0).trans hN
    try rw [e66] at he
    rcases he with ⟨hn, -⟩ | ⟨v, hv, hy, ⟨-, rfl, ρ2, hr, rfl⟩ | ⟨g, h, -⟩⟩
    · skip
      exact absurd (um_in hN' hN8 hu hx) hn
    · skip
      exact ⟨rfl, o_fw I.1 (by decide) hw hr⟩
    · skip
      obtain rfl := nI_u hy hx (by omega) (by omega)
      exact absurd (hd.symm.trans h) (by simp)
  · have e66 : τ 66 = vw 1 σ := (hw 66 (by omega)).trans e0
    try subst hτ
    refine ⟨_, rfl, (E _ e66).mono (fun r' υ he => ?_)⟩
    have hN' := (congrFun e66 0).trans hN
    try rw [e66] at he
    rcases he with ⟨hn, -⟩ | ⟨v, hv, hy, ⟨h, -⟩ | ⟨g2, h2, rfl, hr⟩⟩
    · skip
      exact absurd (um_in hN' hN8 hu hx) hn
    · skip
      obtain rfl := nI_u hy hx (by omega) (by omega)
      exact absurd (h.symm.trans hd) (by simp)
    · skip
      obtain rfl := nI_u hy hx (by omega) (by omega)
      obtain rfl := Option.some.inj (hd.symm.trans h2)
      exact ⟨rfl, o_wk I.1 hw hr⟩
theorem p_ribsFor (l : Launch) (G : GG) {i : Nat} {σ : Sg} (I : Inv i σ) (hi : i ≤ 512) (x : Int32) : Pr l G i σ mX7_ribsFor 5 mX8_ribsFor 8 [.int x] := by
  obtain ⟨N, t, hN8, hN, hS, hW, ht, ht1⟩ := I.1.1.2
  have e0 := I.2.1
  have E := fun (τ : Sg) (e : τ 66 = vw 1 σ) => e_ribsFor l G τ hN8 (by rw [e]; exact hN) (by rw [e]; exact hW) (t := t) (by omega) (by rw [e]; exact ht1) x
  refine (c_ribsFor l G σ hN8 hN x).mono (fun r τ hc => ?_)
  rcases hc with ⟨hn, rfl, hτ⟩ | ⟨u, hu, hx, ⟨hd, rfl, ρ, hw, hτ⟩ | ⟨g, -, hd, rfl, hw⟩⟩
  · have e66 : τ 66 = vw 1 σ := by rw [hτ]; exact (fnd_ne (by omega)).trans e0
    try subst hτ
    refine ⟨_, rfl, (E _ e66).mono (fun r' υ he => ?_)⟩
    have hN' := (congrFun e66 0).trans hN
    try rw [e66] at he
    rcases he with ⟨-, rfl, rfl⟩ | ⟨u, hu, hx, -⟩
    · skip
      exact ⟨rfl, o_fq I.1 (by decide)⟩
    · skip
      exact absurd (um_in hN hN8 hu hx) hn
  · have e66 : τ 66 = vw 1 σ := by rw [hτ]; exact ((fnd_ne (by omega)).trans (hw 66 (by omega))).trans e0
    try subst hτ
    refine ⟨_, rfl, (E _ e66).mono (fun r' υ he => ?_)⟩
    have hN' := (congrFun e66 0).trans hN
    try rw [e66] at he
    rcases he with ⟨hn, -⟩ | ⟨v, hv, hy, ⟨-, rfl, ρ2, hr, rfl⟩ | ⟨g, -, h, -⟩⟩
    · skip
      exact absurd (um_in hN' hN8 hu hx) hn
    · skip
      exact ⟨rfl, o_fw I.1 (by decide) hw hr⟩
    · skip
      obtain rfl := nI_u hy hx (by omega) (by omega)
      exact absurd (hd.symm.trans h) (by simp)
  · have e66 : τ 66 = vw 1 σ := (hw 66 (by omega)).trans e0
    try subst hτ
    refine ⟨_, rfl, (E _ e66).mono (fun r' υ he => ?_)⟩
    have hN' := (congrFun e66 0).trans hN
    try rw [e66] at he
    rcases he with ⟨hn, -⟩ | ⟨v, hv, hy, ⟨h, -⟩ | ⟨g2, -, h2, rfl, hr⟩⟩
    · skip
      exact absurd (um_in hN' hN8 hu hx) hn
    · skip
      obtain rfl := nI_u hy hx (by omega) (by omega)
      exact absurd (h.symm.trans hd) (by simp)
    · skip
      obtain rfl := nI_u hy hx (by omega) (by omega)
      obtain rfl := Option.some.inj (hd.symm.trans h2)
      exact ⟨rfl, o_wk I.1 hw hr⟩
theorem p_first (l : Launch) (G : GG) {i : Nat} {σ : Sg} (I : Inv i σ) (hi : i ≤ 512) : Pr l G i σ mX7_first 5 mX8_first 7 [] := by
  obtain ⟨N, t, hN8, hN, hS, hW, ht, ht1⟩ := I.1.1.2
  have e0 := I.2.1
  have E := fun (τ : Sg) (e : τ 66 = vw 1 σ) => e_first l G τ hN8 (by rw [e]; exact hN) (by rw [e]; exact hW) (t := t) (by omega) (by rw [e]; exact ht1) 
  refine (c_first l G σ hN8 hN ).mono (fun r τ hc => ?_)
  rcases hc with ⟨hd, rfl, ρ, hw, hτ⟩ | ⟨hd, rfl, hw⟩
  · have e66 : τ 66 = vw 1 σ := by rw [hτ]; exact ((fnd_ne (by omega)).trans (hw 66 (by omega))).trans e0
    try subst hτ
    refine ⟨_, rfl, (E _ e66).mono (fun r' υ he => ?_)⟩
    have hN' := (congrFun e66 0).trans hN
    try rw [e66] at he
    rcases he with ⟨-, rfl, ρ2, hr, rfl⟩ | ⟨h, -⟩
    · skip
      exact ⟨rfl, o_fw I.1 (by decide) hw hr⟩
    · skip
      exact absurd hd h
  · have e66 : τ 66 = vw 1 σ := (hw 66 (by omega)).trans e0
    try subst hτ
    refine ⟨_, rfl, (E _ e66).mono (fun r' υ he => ?_)⟩
    have hN' := (congrFun e66 0).trans hN
    try rw [e66] at he
    rcases he with ⟨h, -⟩ | ⟨-, rfl, hr⟩
    · skip
      exact absurd h hd
    · skip
      exact ⟨rfl, o_wk I.1 hw hr⟩

/-! pairs: what only reads -/
theorem vwu {σ : Sg} {u i : Nat} (hu : u < 8) (hi : i < 8) : vw 1 σ (53 + 8 * u + i) = σ (8 + u) i := vw_u 1 σ hu hi
theorem vwf {σ : Sg} {k : Nat} (h : k < 16) : vw 1 σ (5 + k) = σ 3 k := vw_f 1 σ h
theorem vws {σ : Sg} {k : Nat} (h : k < 16) : vw 1 σ (21 + k) = σ 4 k := vw_s 1 σ h
theorem vwr {σ : Sg} {k : Nat} (h : k < 16) : vw 1 σ (37 + k) = σ 5 k := vw_r 1 σ h
theorem vwp {σ : Sg} {k : Nat} (h : k < 10) : vw 1 σ (117 + k) = σ 7 k := vw_p 1 σ h
theorem vwt {σ : Sg} {k j : Nat} (hk : k < 3) (hj : j < 16) : vw 1 σ (5 + 16 * k + j) = σ (3 + k) j := by
  match k, hk with
  | 0, _ => exact vwf hj
  | 1, _ => exact vws hj
  | 2, _ => exact vwr hj
theorem um_cg {σ : Sg} {u : Nat} (hu : u < 8) : ∀ i, i < 8 → um (vw 1 σ) u i = σ (8 + u) i := fun i hi => vwu hu hi
theorem stiff_cg {f g : Nat → Int32} (h : ∀ i, i < 8 → f i = g i) : stiffF f = stiffF g := by
  unfold stiffF
  rw [h 0 (by omega), h 4 (by omega), h 7 (by omega)]
theorem sum_cg {f g : Nat → Int32} : ∀ n, (∀ k, k < n → f k = g k) → sumS f n = sumS g n
  | 0, _ => rfl
  | n + 1, h => by rw [sumS, sumS, sum_cg n (fun k hk => h k (by omega)), h n (by omega)]
theorem cn_cg {f g : Nat → Int32} : ∀ n, (∀ k, k < n → f k = g k) → cnS f n = cnS g n
  | 0, _ => rfl
  | n + 1, h => by rw [cnS, cnS, cn_cg n (fun k hk => h k (by omega)), h n (by omega)]
theorem jd_cg {f g h : Nat → Int32} {m : Nat} (e : ∀ k, k < 16 → g k = h k) : ∀ n k, jdN f g m n k = jdN f h m n k
  | 0, _ => rfl
  | n + 1, k => by
    rw [jdN, jdN, jd_cg e n]
    by_cases hk : k < 16
    · rw [e k hk]
    · by_cases hm : k < m
      · rw [if_pos hm, if_pos hm, if_neg (fun q => hk q.1), if_neg (fun q => hk q.1)]
      · rw [if_neg hm, if_neg hm]
theorem wd_eq {σ : Sg} {j : Nat} (h : j < 16) : Wd (vw 1 σ) j = windF (σ 4) (σ 5) (σ 2 4) (σ 2 5) j := by
  unfold Wd windF
  simp only [vws h, vwr h]
  rfl
theorem so_eq {σ : Sg} {N j k : Nat} (hN : N ≤ 8) (hj : j < 16) (hk : k < 5) : (if k < 3 then vw 1 σ (5 + 16 * k + j) else if k = 3 then Wd (vw 1 σ) j else orS (fun u => vw 1 σ (53 + 8 * u + 1) = nI j) (fun _ => inferInstance) N) = (if k < 3 then σ (3 + k) j else if k = 3 then windF (σ 4) (σ 5) (σ 2 4) (σ 2 5) j else orS (fun u => σ (8 + u) 1 = nI j) (fun _ => inferInstance) N) := by
  by_cases h : k < 3
  · rw [if_pos h, if_pos h, vwt h hj]
  · rw [if_neg h, if_neg h, wd_eq hj]
    rw [or_cg (q := fun u => σ (8 + u) 1 = nI j) (dq := fun _ => inferInstance) N (fun u hu => by rw [vwu (by omega) (by omega)])]
theorem of_eq {σ : Sg} {u k : Nat} (hu : u < 8) (hk : k < 11) : ofR (vw 1 σ) u k = ofF σ u k := by
  unfold ofR ofF
  rw [stiff_cg (um_cg hu), um_cg hu 0 (by omega), um_cg hu 7 (by omega)]
  by_cases h : k < 8
  · rw [vwu hu h]; rfl
  · have : k = 8 ∨ k = 9 ∨ k = 10 := by omega
    rcases this with rfl | rfl | rfl <;> rfl
theorem nw_eq {σ : Sg} {N k : Nat} (hN : N ≤ 8) : nwR (vw 1 σ) N k = nowF σ N k := by
  unfold nwR nowF
  rw [sum_cg (g := fun u => σ (8 + u) 7) N (fun u hu => vwu (by omega) (by omega)), sum_cg (g := fun u => σ (8 + u) 4) N (fun u hu => vwu (by omega) (by omega)), sum_cg (g := fun u => σ (8 + u) 6) N (fun u hu => vwu (by omega) (by omega)),
    or_cg (p := fun u => vw 1 σ (53 + 8 * u + 1) = 16) (q := fun u => σ (8 + u) 1 = 16) (dq := fun _ => inferInstance) N (fun u hu => by rw [vwu (by omega) (by omega)]), or_cg (p := fun u => vw 1 σ (53 + 8 * u + 5) = 1) (q := fun u => σ (8 + u) 5 = 1) (dq := fun _ => inferInstance) N (fun u hu => by rw [vwu (by omega) (by omega)]), or_cg (p := fun n => vw 1 σ (37 + n) = 1) (q := fun n => σ 5 n = 1) (dq := fun _ => inferInstance) 16 (fun u hu => by rw [vwr hu])]
  rfl
theorem ct_eq {i : Nat} {σ : Sg} (I : Inv i σ) {N k : Nat} (hN : N ≤ 8) : ctR σ N k = ctF σ N k := by
  obtain ⟨L, -, q1, q2⟩ := I.1.2.2.1.1
  unfold ctR ctF
  rw [I.2.1, q2, q1, sum_cg (g := fun u => σ (8 + u) 7) N (fun u hu => vwu (by omega) (by omega)), sum_cg (g := fun u => σ (8 + u) 4) N (fun u hu => vwu (by omega) (by omega)),
    or_cg (p := fun u => vw 1 σ (53 + 8 * u + 1) = 16) (q := fun u => σ (8 + u) 1 = 16) (dq := fun _ => inferInstance) N (fun u hu => by rw [vwu (by omega) (by omega)]), cn_cg (g := σ 7) 10 (fun s hs => vwp hs)]
  rfl
theorem st_cs {a : Int32} (h1 : a < -1 ∨ ¬ a < 7) (h2 : ¬ a < -1 ∧ ¬ 6 < a) : False := by
  rcases h1 with h | h
  · exact h2.1 h
  · have q := h2.2
    rw [Int32.lt_iff_toInt_lt] at h q
    have e7 : (7 : Int32).toInt = 7 := rfl
    have e6 : (6 : Int32).toInt = 6 := rfl
    omega
theorem st_cs2 {a : Int32} (h1 : ¬ a < -1) (h : a < 7) : ¬ a < -1 ∧ ¬ 6 < a := by
  refine ⟨h1, fun q => ?_⟩
  rw [Int32.lt_iff_toInt_lt] at h q
  have e7 : (7 : Int32).toInt = 7 := rfl
  have e6 : (6 : Int32).toInt = 6 := rfl
  omega
theorem st_cs3 : ∀ k, k < 7 → (¬ nI k < -1 ∧ ¬ 6 < nI k) ∧ ¬ nI k < 0 := by decide +kernel
theorem bt_z {a b : Int32} (h : BT a b) : a = 0 ↔ b < 0 := by
  rcases h with ⟨rfl, rfl⟩ | ⟨rfl, rfl | rfl | rfl⟩ <;> decide
def unB : Nat → Int32 → Int32 → Bool
  | 0, _, _ => false
  | n + 1, k, a => decide (¬ k < 0 ∧ ¬ 7 ≤ k) && (decide (k = a) || unB n (kA k.toNatClampNeg) a)
theorem unB_iff : ∀ n k a, unN n k a ↔ unB n k a = true
  | 0, _, _ => by simp [unN, unB]
  | n + 1, k, a => by rw [unN, unB, unB_iff n]; simp
theorem un_dec : ∀ k, k < 7 → ∀ a, a < 7 → (unB 7 (nI k) (nI a) = true ↔ unP (nI k) (nI a)) := by decide +kernel
theorem un_eq {k a : Int32} (hk : withinP k 6) (ha : withinP a 6) : unN 7 k a ↔ unP k a := by
  obtain ⟨c, hc, rfl⟩ := wi_nI (g := 6) (by omega) hk
  obtain ⟨d, hd, rfl⟩ := wi_nI (g := 6) (by omega) ha
  rw [unB_iff]
  exact un_dec c (by omega) d (by omega)
theorem m1_ne : ∀ u, u < 8 → ¬ nI u = -1 := by decide +kernel
theorem Inv.szP {i : Nat} {σ : Sg} (I : Inv i σ) : _root_.Jvm.Pilot.@@N@@.szP σ := fun s hs => by
  obtain ⟨⟨m, a, b, c⟩, -⟩ := I.1.2.2.2.1 s hs
  exact ⟨m, a, b⟩
theorem Inv.szR {i : Nat} {σ : Sg} (I : Inv i σ) : _root_.Jvm.Pilot.@@N@@.szR σ := fun s hs => by
  obtain ⟨⟨m, a, b, c⟩, -⟩ := I.1.2.2.2.1 s hs
  exact ⟨m, a, c⟩
theorem Inv.sz {i : Nat} {σ : Sg} (I : Inv i σ) {s m n : Nat} (hs : s < 4) (h1 : σ (57 + 2 * s) 2 = nI m) (hm : m ≤ 40) (h2 : σ 73 s = nI n) (hn : n ≤ 40) : n = m := by
  obtain ⟨⟨q, a, b, c⟩, -⟩ := I.1.2.2.2.1 s hs
  have e1 : q = m := nI_u b h1 (by omega) (by omega)
  have e2 : q = n := nI_u c h2 (by omega) (by omega)
  omega
theorem Inv.bt {i : Nat} {σ : Sg} (I : Inv i σ) {s : Nat} (hs : s < 4) : σ (57 + 2 * s) 1 = 0 ↔ σ 72 s < 0 := bt_z (I.1.2.2.2.1 s hs).2.1
theorem p_stepOf (l : Launch) (G : GG) {i : Nat} {σ : Sg} (I : Inv i σ) (hi : i ≤ 512) (x a : Int32) : Pr l G i σ mX7_stepOf 2 mX8_stepOf 2 [.int x, .int a] := by
  obtain ⟨N, t, hN8, hN, hS, hW, ht, ht1⟩ := I.1.1.2
  have e0 := I.2.1
  have E := fun (τ : Sg) (es : ∀ k, 65 ≤ k → τ k = σ k) (e : τ 66 = vw 1 σ) => e_stepOf l G τ hN8 (by rw [e]; exact hN) x a
  refine (c_stepOf l G σ hN8 hN x a).mono (fun r τ hc => ?_)
  rcases hc with ⟨hn, rfl, hτ⟩ | ⟨j, k, hj, hk, hx, ha, hσ, rfl⟩
  · have es : ∀ k, 65 ≤ k → τ k = σ k := fun k hk => by rw [hτ]; exact fnd_ne (by omega)
    have e66 : τ 66 = vw 1 σ := (es 66 (by omega)).trans e0
    have E1 := E _ es e66
    try subst hτ
    refine ⟨_, rfl, E1.mono (fun r' υ he => ?_)⟩
    have hN' := (congrFun e66 0).trans hN
    try rw [e66] at he
    rcases he with ⟨-, rfl, rfl⟩ | ⟨j, k, hj, hk, hx, ha, -⟩
    · skip
      exact ⟨rfl, o_fq I.1 (by decide)⟩
    · skip
      exact absurd ⟨st_i hx hj, wi_in (g := 4) ha (by omega) (by omega)⟩ hn
  · have es : ∀ k, 65 ≤ k → τ k = σ k := fun k hk => by rw [hσ]
    have e66 : τ 66 = vw 1 σ := (es 66 (by omega)).trans e0
    have E1 := E _ es e66
    replace hσ := hσ.symm
    subst hσ
    refine ⟨_, rfl, E1.mono (fun r' υ he => ?_)⟩
    have hN' := (congrFun e66 0).trans hN
    try rw [e66] at he
    rcases he with ⟨hn, -⟩ | ⟨j2, k2, hj2, hk2, hx2, ha2, rfl, rfl⟩
    · skip
      exact absurd ⟨st_i hx hj, wi_in (g := 4) ha (by omega) (by omega)⟩ hn
    · skip
      obtain rfl := nI_u hx2 hx (by omega) (by omega)
      obtain rfl := nI_u ha2 ha (by omega) (by omega)
      exact ⟨by rw [so_eq hN8 hj hk], o_id I.1⟩
theorem p_of (l : Launch) (G : GG) {i : Nat} {σ : Sg} (I : Inv i σ) (hi : i ≤ 512) (x a : Int32) : Pr l G i σ mX7_of 2 mX8_of 2 [.int x, .int a] := by
  obtain ⟨N, t, hN8, hN, hS, hW, ht, ht1⟩ := I.1.1.2
  have e0 := I.2.1
  have E := fun (τ : Sg) (es : ∀ k, 65 ≤ k → τ k = σ k) (e : τ 66 = vw 1 σ) => e_of l G τ hN8 (by rw [e]; exact hN) (by rw [e]; exact hW) x a
  refine (c_of l G σ hN8 hN x a).mono (fun r τ hc => ?_)
  rcases hc with ⟨hn, rfl, hτ⟩ | ⟨u, k, hu, hk, hx, ha, hσ, rfl⟩
  · have es : ∀ k, 65 ≤ k → τ k = σ k := fun k hk => by rw [hτ]; exact fnd_ne (by omega)
    have e66 : τ 66 = vw 1 σ := (es 66 (by omega)).trans e0
    have E1 := E _ es e66
    try subst hτ
    refine ⟨_, rfl, E1.mono (fun r' υ he => ?_)⟩
    have hN' := (congrFun e66 0).trans hN
    try rw [e66] at he
    rcases he with ⟨-, rfl, rfl⟩ | ⟨u, k, hu, hk, hx, ha, -⟩
    · skip
      exact ⟨rfl, o_fq I.1 (by decide)⟩
    · skip
      exact absurd ⟨um_in hN hN8 hu hx, wi_in (g := 10) ha (by omega) (by omega)⟩ hn
  · have es : ∀ k, 65 ≤ k → τ k = σ k := fun k hk => by rw [hσ]
    have e66 : τ 66 = vw 1 σ := (es 66 (by omega)).trans e0
    have E1 := E _ es e66
    replace hσ := hσ.symm
    subst hσ
    refine ⟨_, rfl, E1.mono (fun r' υ he => ?_)⟩
    have hN' := (congrFun e66 0).trans hN
    try rw [e66] at he
    rcases he with ⟨hn, -⟩ | ⟨u2, k2, hu2, hk2, hx2, ha2, rfl, rfl⟩
    · skip
      exact absurd ⟨um_in hN' hN8 hu hx, wi_in (g := 10) ha (by omega) (by omega)⟩ hn
    · skip
      obtain rfl := nI_u hx2 hx (by omega) (by omega)
      obtain rfl := nI_u ha2 ha (by omega) (by omega)
      exact ⟨by rw [of_eq (by omega) hk], o_id I.1⟩
theorem p_bears (l : Launch) (G : GG) {i : Nat} {σ : Sg} (I : Inv i σ) (hi : i ≤ 512) (x p h : Int32) : Pr l G i σ mX7_bears 2 mX8_bears 3 [.int x, .int p, .int h] := by
  obtain ⟨N, t, hN8, hN, hS, hW, ht, ht1⟩ := I.1.1.2
  have e0 := I.2.1
  have E := fun (τ : Sg) (es : ∀ k, 65 ≤ k → τ k = σ k) (e : τ 66 = vw 1 σ) => e_bears l G τ hN8 (by rw [e]; exact hN) (by rw [e]; exact hW) x p h
  refine (c_bears l G σ hN8 hN x p h).mono (fun r τ hc => ?_)
  rcases hc with ⟨hn, rfl, hτ⟩ | ⟨u, j, hu, hj, hx, hp, hh, hσ, rfl⟩
  · have es : ∀ k, 65 ≤ k → τ k = σ k := fun k hk => by rw [hτ]; exact fnd_ne (by omega)
    have e66 : τ 66 = vw 1 σ := (es 66 (by omega)).trans e0
    have E1 := E _ es e66
    try subst hτ
    refine ⟨_, rfl, E1.mono (fun r' υ he => ?_)⟩
    have hN' := (congrFun e66 0).trans hN
    try rw [e66] at he
    rcases he with ⟨-, rfl, rfl⟩ | ⟨u, j, hu, hj, hx, hp, hh, -⟩
    · skip
      exact ⟨rfl, o_fq I.1 (by decide)⟩
    · skip
      exact absurd ⟨um_in hN hN8 hu hx, st_i hp hj, hh⟩ hn
  · have es : ∀ k, 65 ≤ k → τ k = σ k := fun k hk => by rw [hσ]
    have e66 : τ 66 = vw 1 σ := (es 66 (by omega)).trans e0
    have E1 := E _ es e66
    replace hσ := hσ.symm
    subst hσ
    refine ⟨_, rfl, E1.mono (fun r' υ he => ?_)⟩
    have hN' := (congrFun e66 0).trans hN
    try rw [e66] at he
    rcases he with ⟨hn, -⟩ | ⟨u2, j2, hu2, hj2, hx2, hp2, -, rfl, rfl⟩
    · skip
      exact absurd ⟨um_in hN' hN8 hu hx, st_i hp hj, hh⟩ hn
    · skip
      obtain rfl := nI_u hx2 hx (by omega) (by omega)
      obtain rfl := nI_u hp2 hp (by omega) (by omega)
      exact ⟨by rw [stiff_cg (um_cg (by omega)), vwf hj], o_id I.1⟩
theorem p_now (l : Launch) (G : GG) {i : Nat} {σ : Sg} (I : Inv i σ) (hi : i ≤ 512) (a : Int32) : Pr l G i σ mX7_now 2 mX8_now 3 [.int a] := by
  obtain ⟨N, t, hN8, hN, hS, hW, ht, ht1⟩ := I.1.1.2
  have e0 := I.2.1
  have E := fun (τ : Sg) (es : ∀ k, 65 ≤ k → τ k = σ k) (e : τ 66 = vw 1 σ) => e_now l G τ hN8 (by rw [e]; exact hN) (by rw [e]; exact hW) a
  refine (c_now l G σ hN8 hN a).mono (fun r τ hc => ?_)
  rcases hc with ⟨hn, rfl, hτ⟩ | ⟨k, hk, ha, hσ, rfl⟩
  · have es : ∀ k, 65 ≤ k → τ k = σ k := fun k hk => by rw [hτ]; exact fnd_ne (by omega)
    have e66 : τ 66 = vw 1 σ := (es 66 (by omega)).trans e0
    have E1 := E _ es e66
    try subst hτ
    refine ⟨_, rfl, E1.mono (fun r' υ he => ?_)⟩
    have hN' := (congrFun e66 0).trans hN
    try rw [e66] at he
    rcases he with ⟨-, rfl, rfl⟩ | ⟨k, hk, ha, -⟩
    · skip
      exact ⟨rfl, o_fq I.1 (by decide)⟩
    · skip
      exact absurd (wi_in (g := 6) ha (by omega) (by omega)) hn
  · have es : ∀ k, 65 ≤ k → τ k = σ k := fun k hk => by rw [hσ]
    have e66 : τ 66 = vw 1 σ := (es 66 (by omega)).trans e0
    have E1 := E _ es e66
    replace hσ := hσ.symm
    subst hσ
    refine ⟨_, rfl, E1.mono (fun r' υ he => ?_)⟩
    have hN' := (congrFun e66 0).trans hN
    try rw [e66] at he
    rcases he with ⟨hn, -⟩ | ⟨k2, hk2, ha2, rfl, rfl⟩
    · skip
      exact absurd (wi_in (g := 6) ha (by omega) (by omega)) hn
    · skip
      obtain rfl := nI_u ha2 ha (by omega) (by omega)
      exact ⟨by rw [nw_eq hN8], o_id I.1⟩
theorem p_odds (l : Launch) (G : GG) {i : Nat} {σ : Sg} (I : Inv i σ) (hi : i ≤ 512) (n a : Int32) : PrL l G i σ mX7_odds 1 mX8_odds 1 [.int n, .int a] := by
  obtain ⟨N, t, hN8, hN, hS, hW, ht, ht1⟩ := I.1.1.2
  have e0 := I.2.1
  have E := fun (τ : Sg) (es : ∀ k, 65 ≤ k → τ k = σ k) (e : τ 66 = vw 1 σ) => e_odds l G τ (by rw [e]; exact hW) n a
  refine (c_odds l G σ  n a).mono (fun r τ hc => ?_)
  rcases hc with ⟨hn, rfl, hτ⟩ | ⟨m, k, hm, hnn, hk, ha, hσ, rfl⟩
  · have es : ∀ k, 65 ≤ k → τ k = σ k := fun k hk => by rw [hτ]; exact fnd_ne (by omega)
    have e66 : τ 66 = vw 1 σ := (es 66 (by omega)).trans e0
    have E1 := E _ es e66
    try subst hτ
    refine ⟨_, rfl, E1.mono (fun r' υ he => ?_)⟩
    have hN' := (congrFun e66 0).trans hN
    try rw [e66] at he
    rcases he with ⟨-, rfl, rfl⟩ | ⟨m, k, hm, hnn, hk, ha, -⟩
    · skip
      exact ⟨rfl, o_fq I.1 (by decide)⟩
    · skip
      exact absurd ⟨wi_in (g := 15) hnn (by omega) (by omega), wi_in (g := 1) ha (by omega) (by omega)⟩ hn
  · have es : ∀ k, 65 ≤ k → τ k = σ k := fun k hk => by rw [hσ]
    have e66 : τ 66 = vw 1 σ := (es 66 (by omega)).trans e0
    have E1 := E _ es e66
    replace hσ := hσ.symm
    subst hσ
    refine ⟨_, rfl, E1.mono (fun r' υ he => ?_)⟩
    have hN' := (congrFun e66 0).trans hN
    try rw [e66] at he
    rcases he with ⟨hn, -⟩ | ⟨m2, k2, hm2, hnn2, hk2, ha2, rfl, rfl⟩
    · skip
      exact absurd ⟨wi_in (g := 15) hnn (by omega) (by omega), wi_in (g := 1) ha (by omega) (by omega)⟩ hn
    · skip
      obtain rfl := nI_u hnn2 hnn (by omega) (by omega)
      obtain rfl := nI_u ha2 ha (by omega) (by omega)
      exact ⟨by rw [or_cg (q := fun n => υ 5 n = 1) (dq := fun _ => inferInstance) 16 (fun u hu => by rw [vwr hu])], o_id I.1⟩
theorem p_count (l : Launch) (G : GG) {i : Nat} {σ : Sg} (I : Inv i σ) (hi : i ≤ 512) (a : Int32) : Pr l G i σ mX7_count 2 mX8_count 3 [.int a] := by
  obtain ⟨N, t, hN8, hN, hS, hW, ht, ht1⟩ := I.1.1.2
  have e0 := I.2.1
  have E := fun (τ : Sg) (es : ∀ k, 65 ≤ k → τ k = σ k) (e : τ 66 = vw 1 σ) => e_count l G τ hN8 (by rw [e]; exact hN) (by rw [e]; exact hS) a
  refine (c_count l G σ hN8 hN a).mono (fun r τ hc => ?_)
  rcases hc with ⟨hn, rfl, hτ⟩ | ⟨k, hk, ha, hσ, rfl⟩
  · have es : ∀ k, 65 ≤ k → τ k = σ k := fun k hk => by rw [hτ]; exact fnd_ne (by omega)
    have e66 : τ 66 = vw 1 σ := (es 66 (by omega)).trans e0
    have E1 := E _ es e66
    try subst hτ
    refine ⟨_, rfl, E1.mono (fun r' υ he => ?_)⟩
    have hN' := (congrFun e66 0).trans hN
    try rw [e66] at he
    rcases he with ⟨-, rfl, rfl⟩ | ⟨k, hk, ha, -⟩
    · skip
      exact ⟨rfl, o_fq I.1 (by decide)⟩
    · skip
      exact absurd (wi_in (g := 7) ha (by omega) (by omega)) hn
  · have es : ∀ k, 65 ≤ k → τ k = σ k := fun k hk => by rw [hσ]
    have e66 : τ 66 = vw 1 σ := (es 66 (by omega)).trans e0
    have E1 := E _ es e66
    replace hσ := hσ.symm
    subst hσ
    refine ⟨_, rfl, E1.mono (fun r' υ he => ?_)⟩
    have hN' := (congrFun e66 0).trans hN
    try rw [e66] at he
    rcases he with ⟨hn, -⟩ | ⟨k2, hk2, ha2, rfl, rfl⟩
    · skip
      exact absurd (wi_in (g := 7) ha (by omega) (by omega)) hn
    · skip
      obtain rfl := nI_u ha2 ha (by omega) (by omega)
      exact ⟨by rw [ct_eq I hN8], o_id I.1⟩
theorem p_status (l : Launch) (G : GG) {i : Nat} {σ : Sg} (I : Inv i σ) (hi : i ≤ 512) (a : Int32) : Pr l G i σ mX7_status 1 mX8_status 1 [.int a] := by
  obtain ⟨N, t, hN8, hN, hS, hW, ht, ht1⟩ := I.1.1.2
  have e0 := I.2.1
  have E := fun (τ : Sg) (es : ∀ k, 65 ≤ k → τ k = σ k) (e : τ 66 = vw 1 σ) => e_status l G τ  a
  refine (c_status l G σ  a).mono (fun r τ hc => ?_)
  rcases hc with ⟨hn, rfl, hτ⟩ | ⟨h1, h2, h3, rfl, hσ⟩ | ⟨k, hk, ha, rfl, hσ⟩
  · have es : ∀ k, 65 ≤ k → τ k = σ k := fun k hk => by rw [hτ]; exact fnd_ne (by omega)
    have e66 : τ 66 = vw 1 σ := (es 66 (by omega)).trans e0
    have E1 := E _ es e66
    try subst hτ
    refine ⟨_, rfl, E1.mono (fun r' υ he => ?_)⟩
    have hN' := (congrFun e66 0).trans hN
    try rw [e66] at he
    rcases he with ⟨-, rfl, rfl⟩ | ⟨h, -⟩
    · skip
      exact ⟨rfl, o_fq I.1 (by decide)⟩
    · skip
      exact (st_cs hn h).elim
  · have es : ∀ k, 65 ≤ k → τ k = σ k := fun k hk => by rw [hσ]
    have e66 : τ 66 = vw 1 σ := (es 66 (by omega)).trans e0
    have E1 := E _ es e66
    replace hσ := hσ.symm
    subst hσ
    refine ⟨_, rfl, E1.mono (fun r' υ he => ?_)⟩
    have hN' := (congrFun e66 0).trans hN
    try rw [e66] at he
    rcases he with ⟨hn, -⟩ | ⟨-, k, hk, -, hz, -, rfl, rfl⟩
    · skip
      exact absurd (st_cs2 h1 h2) hn
    · skip
      rw [hz.mp h3]
      exact ⟨by rw [I.1.2.2.2.2.2], o_id I.1⟩
  · have es : ∀ k, 65 ≤ k → τ k = σ k := fun k hk => by rw [hσ]
    have e66 : τ 66 = vw 1 σ := (es 66 (by omega)).trans e0
    have E1 := E _ es e66
    replace hσ := hσ.symm
    subst hσ
    refine ⟨_, rfl, E1.mono (fun r' υ he => ?_)⟩
    have hN' := (congrFun e66 0).trans hN
    try rw [e66] at he
    rcases he with ⟨hn, -⟩ | ⟨-, m, hm, -, hz, hs, rfl, rfl⟩
    · skip
      rw [ha] at hn
      exact absurd (st_cs3 k hk).1 hn
    · skip
      match m, hm, hz, hs with
      | 0, _, hz, _ => exact absurd (hz.mpr rfl) (by rw [ha]; exact (st_cs3 k hk).2)
      | j + 1, _, _, hs =>
        obtain rfl := nI_u (hs j rfl) ha (by omega) (by omega)
        exact ⟨by rw [I.1.2.2.2.2.1 _ hk], o_id I.1⟩
theorem p_judge (l : Launch) (G : GG) {i : Nat} {σ : Sg} (I : Inv i σ) (hi : i ≤ 512) (x : Int32) : Pr l G i σ mX7_judge 2 mX8_judge 2 [.int x] := by
  obtain ⟨N, t, hN8, hN, hS, hW, ht, ht1⟩ := I.1.1.2
  have e0 := I.2.1
  have E := fun (τ : Sg) (es : ∀ k, 65 ≤ k → τ k = σ k) (e : τ 66 = vw 1 σ) => e_judge l G τ (fun s hs => by rw [es 73 (by omega)]; exact I.szR s hs) x
  refine (c_judge l G σ I.szP x).mono (fun r τ hc => ?_)
  rcases hc with ⟨hn, rfl, hτ⟩ | ⟨s, m, hs, hx, hm, hm4, ⟨hb, rfl, hτ⟩ | ⟨hb, rfl, hσ⟩⟩
  · have es : ∀ k, 65 ≤ k → τ k = σ k := fun k hk => by rw [hτ]; exact fnd_ne (by omega)
    have e66 : τ 66 = vw 1 σ := (es 66 (by omega)).trans e0
    have E1 := E _ es e66
    have e72 := es 72 (by omega)
    have e73 := es 73 (by omega)
    try subst hτ
    refine ⟨_, rfl, E1.mono (fun r' υ he => ?_)⟩
    have hN' := (congrFun e66 0).trans hN
    try rw [e66] at he
    try rw [e72] at he
    try rw [e73] at he
    rcases he with ⟨-, rfl, rfl⟩ | ⟨s, m, hs, hx, -⟩
    · skip
      exact ⟨rfl, o_fq I.1 (by decide)⟩
    · skip
      exact absurd (sh_i hx hs) hn
  · have es : ∀ k, 65 ≤ k → τ k = σ k := fun k hk => by rw [hτ]; exact fnd_ne (by omega)
    have e66 : τ 66 = vw 1 σ := (es 66 (by omega)).trans e0
    have E1 := E _ es e66
    have e72 := es 72 (by omega)
    have e73 := es 73 (by omega)
    try subst hτ
    refine ⟨_, rfl, E1.mono (fun r' υ he => ?_)⟩
    have hN' := (congrFun e66 0).trans hN
    try rw [e66] at he
    try rw [e72] at he
    try rw [e73] at he
    rcases he with ⟨hn, -⟩ | ⟨s2, m2, hs2, hx2, hm2, hm24, ⟨-, rfl, rfl⟩ | ⟨h, -⟩⟩
    · skip
      exact absurd (sh_i hx hs) hn
    · skip
      exact ⟨rfl, o_fq I.1 (by decide)⟩
    · skip
      obtain rfl := nI_u hx2 hx (by omega) (by omega)
      exact absurd ((I.bt hs).mp hb) h
  · have es : ∀ k, 65 ≤ k → τ k = σ k := fun k hk => by rw [hσ]
    have e66 : τ 66 = vw 1 σ := (es 66 (by omega)).trans e0
    have E1 := E _ es e66
    have e72 := es 72 (by omega)
    have e73 := es 73 (by omega)
    replace hσ := hσ.symm
    subst hσ
    refine ⟨_, rfl, E1.mono (fun r' υ he => ?_)⟩
    have hN' := (congrFun e66 0).trans hN
    try rw [e66] at he
    try rw [e72] at he
    try rw [e73] at he
    rcases he with ⟨hn, -⟩ | ⟨s2, m2, hs2, hx2, hm2, hm24, ⟨h, -⟩ | ⟨-, rfl, rfl⟩⟩
    · skip
      exact absurd (sh_i hx hs) hn
    · skip
      obtain rfl := nI_u hx2 hx (by omega) (by omega)
      exact absurd ((I.bt hs).mpr h) hb
    · skip
      obtain rfl := nI_u hx2 hx (by omega) (by omega)
      obtain rfl := I.sz hs hm hm4 hm2 hm24
      exact ⟨by rw [I.2.2.2.2 _ hs, jd_cg (fun k hk => wd_eq hk)], o_id I.1⟩
theorem p_as (l : Launch) (G : GG) {i : Nat} {σ : Sg} (I : Inv i σ) (hi : i ≤ 512) (x y : Int32) : Pr l G i σ mX7_as 2 mX8_as 1 [.int x, .int y] := by
  obtain ⟨N, t, hN8, hN, hS, hW, ht, ht1⟩ := I.1.1.2
  have e0 := I.2.1
  have E := fun (τ : Sg) (es : ∀ k, 65 ≤ k → τ k = σ k) (e : τ 66 = vw 1 σ) => e_as l G τ hN8 (by rw [e]; exact hN) (by rw [e]; exact hS) x y
  refine (c_as l G σ hN8 hN x y).mono (fun r τ hc => ?_)
  rcases hc with ⟨hn, rfl, hτ⟩ | ⟨s, hs, hx, hy, ⟨hu, rfl, hτ⟩ | ⟨u, hu, hsu, ⟨h1, rfl, hσ⟩ | ⟨h1, rfl, hτ⟩⟩⟩
  · have es : ∀ k, 65 ≤ k → τ k = σ k := fun k hk => by rw [hτ]; exact fnd_ne (by omega)
    have e66 : τ 66 = vw 1 σ := (es 66 (by omega)).trans e0
    have E1 := E _ es e66
    try subst hτ
    refine ⟨_, rfl, E1.mono (fun r' υ he => ?_)⟩
    have hN' := (congrFun e66 0).trans hN
    try rw [e66] at he
    rcases he with ⟨-, rfl, rfl⟩ | ⟨s, hs, hx, hy, -⟩
    · skip
      exact ⟨rfl, o_fq I.1 (by decide)⟩
    · skip
      exact absurd ⟨wi_in (g := 9) hx (by omega) (by omega), hy⟩ hn
  · have es : ∀ k, 65 ≤ k → τ k = σ k := fun k hk => by rw [hτ]; exact fnd_ne (by omega)
    have e66 : τ 66 = vw 1 σ := (es 66 (by omega)).trans e0
    have E1 := E _ es e66
    try subst hτ
    refine ⟨_, rfl, E1.mono (fun r' υ he => ?_)⟩
    have hN' := (congrFun e66 0).trans hN
    try rw [e66] at he
    rcases he with ⟨hn, -⟩ | ⟨s2, hs2, hx2, -, ⟨h, rfl, rfl⟩ | ⟨u, hu2, hsu, -⟩⟩
    · skip
      exact absurd ⟨wi_in (g := 9) hx (by omega) (by omega), hy⟩ hn
    · skip
      exact ⟨rfl, o_fq I.1 (by decide)⟩
    · skip
      obtain rfl := nI_u hx2 hx (by omega) (by omega)
      rw [vwp hs] at hsu
      exact absurd (um_in hN hN8 hu2 hsu) hu
  · have es : ∀ k, 65 ≤ k → τ k = σ k := fun k hk => by rw [hσ]
    have e66 : τ 66 = vw 1 σ := (es 66 (by omega)).trans e0
    have E1 := E _ es e66
    replace hσ := hσ.symm
    subst hσ
    refine ⟨_, rfl, E1.mono (fun r' υ he => ?_)⟩
    have hN' := (congrFun e66 0).trans hN
    try rw [e66] at he
    rcases he with ⟨hn, -⟩ | ⟨s2, hs2, hx2, -, ⟨h, -⟩ | ⟨u2, hu2, hsu2, ⟨-, rfl, rfl⟩ | ⟨h, -⟩⟩⟩
    · skip
      exact absurd ⟨wi_in (g := 9) hx (by omega) (by omega), hy⟩ hn
    · skip
      obtain rfl := nI_u hx2 hx (by omega) (by omega)
      rw [vwp hs, hsu] at h
      exact absurd h (m1_ne u (by omega))
    · skip
      obtain rfl := nI_u hx2 hx (by omega) (by omega)
      rw [vwp hs] at hsu2
      obtain rfl := nI_u hsu2 hsu (by omega) (by omega)
      exact ⟨rfl, o_id I.1⟩
    · skip
      obtain rfl := nI_u hx2 hx (by omega) (by omega)
      rw [vwp hs] at hsu2
      obtain rfl := nI_u hsu2 hsu (by omega) (by omega)
      have hk := hW.2.2.2 u2 0 (by omega) (by omega)
      rw [vwu (by omega) (by omega)] at hk
      rw [um_cg (by omega) 0 (by omega)] at h
      exact absurd ((un_eq hk hy).mp h1) h
  · have es : ∀ k, 65 ≤ k → τ k = σ k := fun k hk => by rw [hτ]; exact fnd_ne (by omega)
    have e66 : τ 66 = vw 1 σ := (es 66 (by omega)).trans e0
    have E1 := E _ es e66
    try subst hτ
    refine ⟨_, rfl, E1.mono (fun r' υ he => ?_)⟩
    have hN' := (congrFun e66 0).trans hN
    try rw [e66] at he
    rcases he with ⟨hn, -⟩ | ⟨s2, hs2, hx2, -, ⟨h, -⟩ | ⟨u2, hu2, hsu2, ⟨h, -⟩ | ⟨-, rfl, rfl⟩⟩⟩
    · skip
      exact absurd ⟨wi_in (g := 9) hx (by omega) (by omega), hy⟩ hn
    · skip
      obtain rfl := nI_u hx2 hx (by omega) (by omega)
      rw [vwp hs, hsu] at h
      exact absurd h (m1_ne u (by omega))
    · skip
      obtain rfl := nI_u hx2 hx (by omega) (by omega)
      rw [vwp hs] at hsu2
      obtain rfl := nI_u hsu2 hsu (by omega) (by omega)
      have hk := hW.2.2.2 u2 0 (by omega) (by omega)
      rw [vwu (by omega) (by omega)] at hk
      rw [um_cg (by omega) 0 (by omega)] at h
      exact absurd ((un_eq hk hy).mpr h) h1
    · skip
      exact ⟨rfl, o_fq I.1 (by decide)⟩
theorem p_fits (l : Launch) (G : GG) {i : Nat} {σ : Sg} (I : Inv i σ) (hi : i ≤ 512) (x y : Int32) : Pr l G i σ mX7_fits 6 mX8_fits 8 [.int x, .int y] := by
  obtain ⟨N, t, hN8, hN, hS, hW, ht, ht1⟩ := I.1.1.2
  have e0 := I.2.1
  have E := fun (τ : Sg) (es : ∀ k, 65 ≤ k → τ k = σ k) (e : τ 66 = vw 1 σ) => e_fits l G τ hN8 (by rw [e]; exact hN) (fun s hs => by rw [es 73 (by omega)]; exact I.szR s hs) (by rw [e]; exact hW) (t := t) (by omega) (by rw [e]; exact ht1) x y
  refine (c_fits l G σ hN8 hN I.szP x y).mono (fun r τ hc => ?_)
  rcases hc with ⟨hn, rfl, hτ⟩ | ⟨s, m, hs, hx, hm, hm4, ⟨hb, rfl, hτ⟩ | ⟨hb, hu, rfl, hτ⟩ | ⟨hb, u, hu, hy, rfl, hw⟩⟩
  · have es : ∀ k, 65 ≤ k → τ k = σ k := fun k hk => by rw [hτ]; exact fnd_ne (by omega)
    have e66 : τ 66 = vw 1 σ := (es 66 (by omega)).trans e0
    have E1 := E _ es e66
    have e72 := es 72 (by omega)
    have e73 := es 73 (by omega)
    try subst hτ
    refine ⟨_, rfl, E1.mono (fun r' υ he => ?_)⟩
    have hN' := (congrFun e66 0).trans hN
    try rw [e66] at he
    try rw [e72] at he
    try rw [e73] at he
    rcases he with ⟨-, rfl, rfl⟩ | ⟨s, m, hs, hx, -⟩
    · skip
      exact ⟨rfl, o_fq I.1 (by decide)⟩
    · skip
      exact absurd (sh_i hx hs) hn
  · have es : ∀ k, 65 ≤ k → τ k = σ k := fun k hk => by rw [hτ]; exact fnd_ne (by omega)
    have e66 : τ 66 = vw 1 σ := (es 66 (by omega)).trans e0
    have E1 := E _ es e66
    have e72 := es 72 (by omega)
    have e73 := es 73 (by omega)
    try subst hτ
    refine ⟨_, rfl, E1.mono (fun r' υ he => ?_)⟩
    have hN' := (congrFun e66 0).trans hN
    try rw [e66] at he
    try rw [e72] at he
    try rw [e73] at he
    rcases he with ⟨hn, -⟩ | ⟨s2, m2, hs2, hx2, hm2, hm24, ⟨-, rfl, rfl⟩ | ⟨h, -⟩ | ⟨h, -⟩⟩
    · skip
      exact absurd (sh_i hx hs) hn
    · skip
      exact ⟨rfl, o_fq I.1 (by decide)⟩
    · skip
      obtain rfl := nI_u hx2 hx (by omega) (by omega)
      exact absurd ((I.bt hs).mp hb) h
    · skip
      obtain rfl := nI_u hx2 hx (by omega) (by omega)
      exact absurd ((I.bt hs).mp hb) h
  · have es : ∀ k, 65 ≤ k → τ k = σ k := fun k hk => by rw [hτ]; exact fnd_ne (by omega)
    have e66 : τ 66 = vw 1 σ := (es 66 (by omega)).trans e0
    have E1 := E _ es e66
    have e72 := es 72 (by omega)
    have e73 := es 73 (by omega)
    try subst hτ
    refine ⟨_, rfl, E1.mono (fun r' υ he => ?_)⟩
    have hN' := (congrFun e66 0).trans hN
    try rw [e66] at he
    try rw [e72] at he
    try rw [e73] at he
    rcases he with ⟨hn, -⟩ | ⟨s2, m2, hs2, hx2, hm2, hm24, ⟨h, -⟩ | ⟨-, -, rfl, rfl⟩ | ⟨-, u, hu2, hy, -⟩⟩
    · skip
      exact absurd (sh_i hx hs) hn
    · skip
      obtain rfl := nI_u hx2 hx (by omega) (by omega)
      try rw [e72] at h
      exact absurd ((I.bt hs).mpr h) hb
    · skip
      exact ⟨rfl, o_fq I.1 (by decide)⟩
    · skip
      exact absurd (um_in hN hN8 hu2 hy) hu
  · have es : ∀ k, 65 ≤ k → τ k = σ k := fun k hk => hw k (by omega)
    have e66 : τ 66 = vw 1 σ := (es 66 (by omega)).trans e0
    have E1 := E _ es e66
    have e72 := es 72 (by omega)
    have e73 := es 73 (by omega)
    try subst hτ
    refine ⟨_, rfl, E1.mono (fun r' υ he => ?_)⟩
    have hN' := (congrFun e66 0).trans hN
    try rw [e66] at he
    try rw [e72] at he
    try rw [e73] at he
    rcases he with ⟨hn, -⟩ | ⟨s2, m2, hs2, hx2, hm2, hm24, ⟨h, -⟩ | ⟨-, h, -⟩ | ⟨-, v, hv, hy2, rfl, hr⟩⟩
    · skip
      exact absurd (sh_i hx hs) hn
    · skip
      obtain rfl := nI_u hx2 hx (by omega) (by omega)
      try rw [e72] at h
      exact absurd ((I.bt hs).mpr h) hb
    · skip
      exact absurd (um_in hN' hN8 hu hy) h
    · skip
      obtain rfl := nI_u hx2 hx (by omega) (by omega)
      try rw [e73] at hm2
      obtain rfl := I.sz hs hm hm4 hm2 hm24
      obtain rfl := nI_u hy2 hy (by omega) (by omega)
      refine ⟨?_, o_wk I.1 hw hr⟩
      congr 2
      refine or_cg _ (fun n hn => ?_)
      rw [I.2.2.2.2 _ hs]
      unfold nb
      rw [es 74 (by omega)]
theorem p_kinds (l : Launch) (G : GG) {i : Nat} {σ : Sg} (I : Inv i σ) (hi : i ≤ 512) (x y : Int32) : Pr l G i σ mX7_kinds 6 mX8_kinds 8 [.int x, .int y] := by
  obtain ⟨N, t, hN8, hN, hS, hW, ht, ht1⟩ := I.1.1.2
  have e0 := I.2.1
  have E := fun (τ : Sg) (es : ∀ k, 65 ≤ k → τ k = σ k) (e : τ 66 = vw 1 σ) => e_kinds l G τ hN8 (by rw [e]; exact hN) (fun s hs => by rw [es 73 (by omega)]; exact I.szR s hs) (by rw [e]; exact hW) (t := t) (by omega) (by rw [e]; exact ht1) x y
  refine (c_kinds l G σ hN8 hN I.szP x y).mono (fun r τ hc => ?_)
  rcases hc with ⟨hn, rfl, hτ⟩ | ⟨s, m, hs, hx, hm, hm4, ⟨hb, rfl, hτ⟩ | ⟨hb, hu, rfl, hτ⟩ | ⟨hb, u, hu, hy, rfl, hw⟩⟩
  · have es : ∀ k, 65 ≤ k → τ k = σ k := fun k hk => by rw [hτ]; exact fnd_ne (by omega)
    have e66 : τ 66 = vw 1 σ := (es 66 (by omega)).trans e0
    have E1 := E _ es e66
    have e72 := es 72 (by omega)
    have e73 := es 73 (by omega)
    try subst hτ
    refine ⟨_, rfl, E1.mono (fun r' υ he => ?_)⟩
    have hN' := (congrFun e66 0).trans hN
    try rw [e66] at he
    try rw [e72] at he
    try rw [e73] at he
    rcases he with ⟨-, rfl, rfl⟩ | ⟨s, m, hs, hx, -⟩
    · skip
      exact ⟨rfl, o_fq I.1 (by decide)⟩
    · skip
      exact absurd (sh_i hx hs) hn
  · have es : ∀ k, 65 ≤ k → τ k = σ k := fun k hk => by rw [hτ]; exact fnd_ne (by omega)
    have e66 : τ 66 = vw 1 σ := (es 66 (by omega)).trans e0
    have E1 := E _ es e66
    have e72 := es 72 (by omega)
    have e73 := es 73 (by omega)
    try subst hτ
    refine ⟨_, rfl, E1.mono (fun r' υ he => ?_)⟩
    have hN' := (congrFun e66 0).trans hN
    try rw [e66] at he
    try rw [e72] at he
    try rw [e73] at he
    rcases he with ⟨hn, -⟩ | ⟨s2, m2, hs2, hx2, hm2, hm24, ⟨-, rfl, rfl⟩ | ⟨h, -⟩ | ⟨h, -⟩⟩
    · skip
      exact absurd (sh_i hx hs) hn
    · skip
      exact ⟨rfl, o_fq I.1 (by decide)⟩
    · skip
      obtain rfl := nI_u hx2 hx (by omega) (by omega)
      exact absurd ((I.bt hs).mp hb) h
    · skip
      obtain rfl := nI_u hx2 hx (by omega) (by omega)
      exact absurd ((I.bt hs).mp hb) h
  · have es : ∀ k, 65 ≤ k → τ k = σ k := fun k hk => by rw [hτ]; exact fnd_ne (by omega)
    have e66 : τ 66 = vw 1 σ := (es 66 (by omega)).trans e0
    have E1 := E _ es e66
    have e72 := es 72 (by omega)
    have e73 := es 73 (by omega)
    try subst hτ
    refine ⟨_, rfl, E1.mono (fun r' υ he => ?_)⟩
    have hN' := (congrFun e66 0).trans hN
    try rw [e66] at he
    try rw [e72] at he
    try rw [e73] at he
    rcases he with ⟨hn, -⟩ | ⟨s2, m2, hs2, hx2, hm2, hm24, ⟨h, -⟩ | ⟨-, -, rfl, rfl⟩ | ⟨-, u, hu2, hy, -⟩⟩
    · skip
      exact absurd (sh_i hx hs) hn
    · skip
      obtain rfl := nI_u hx2 hx (by omega) (by omega)
      try rw [e72] at h
      exact absurd ((I.bt hs).mpr h) hb
    · skip
      exact ⟨rfl, o_fq I.1 (by decide)⟩
    · skip
      exact absurd (um_in hN hN8 hu2 hy) hu
  · have es : ∀ k, 65 ≤ k → τ k = σ k := fun k hk => hw k (by omega)
    have e66 : τ 66 = vw 1 σ := (es 66 (by omega)).trans e0
    have E1 := E _ es e66
    have e72 := es 72 (by omega)
    have e73 := es 73 (by omega)
    try subst hτ
    refine ⟨_, rfl, E1.mono (fun r' υ he => ?_)⟩
    have hN' := (congrFun e66 0).trans hN
    try rw [e66] at he
    try rw [e72] at he
    try rw [e73] at he
    rcases he with ⟨hn, -⟩ | ⟨s2, m2, hs2, hx2, hm2, hm24, ⟨h, -⟩ | ⟨-, h, -⟩ | ⟨-, v, hv, hy2, rfl, hr⟩⟩
    · skip
      exact absurd (sh_i hx hs) hn
    · skip
      obtain rfl := nI_u hx2 hx (by omega) (by omega)
      try rw [e72] at h
      exact absurd ((I.bt hs).mpr h) hb
    · skip
      exact absurd (um_in hN' hN8 hu hy) h
    · skip
      obtain rfl := nI_u hx2 hx (by omega) (by omega)
      try rw [e73] at hm2
      obtain rfl := I.sz hs hm hm4 hm2 hm24
      obtain rfl := nI_u hy2 hy (by omega) (by omega)
      refine ⟨?_, o_wk I.1 hw hr⟩
      congr 2
      refine or_cg _ (fun n hn => ?_)
      rw [I.2.2.2.2 _ hs]
      unfold nb
      rw [es 74 (by omega)]

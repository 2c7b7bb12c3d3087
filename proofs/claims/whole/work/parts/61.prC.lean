/-! pairs: what changes the row -/
theorem GR.w {i : Nat} {w x : Nat → Int32} (h : GR i w) (h0 : x 0 = w 0) (h1 : x 1 = w 1) (hs : ∀ s, s < 10 → x (117 + s) = w (117 + s)) (hW : WR w → WR x) : GR (i + 1) x := by
  obtain ⟨N, t, a, b, c, d, e, f⟩ := h
  exact ⟨N, t, a, h0.trans b, fun s q => by rw [hs s q]; exact c s q, hW d, by omega, h1.trans f⟩
theorem upd_ne {f : Nat → Int32} {k j : Nat} {v : Int32} (h : j ≠ k) : upd f k v j = f j := by rw [upd, if_neg h]
theorem WR_f {w : Nat → Int32} (hW : WR w) {n : Nat} (hn : n < 16) {v : Int32} (hv : withinP v 2) : WR (upd w (5 + n) v) := by
  refine ⟨?_, ?_, fun k' hk' => ⟨?_, ?_, ?_⟩, fun u' i' hu' hi' => ?_⟩
  · rw [upd_ne (by omega)]; exact hW.1
  · rw [upd_ne (by omega)]; exact hW.2.1
  · unfold upd
    split
    · exact hv
    · exact (hW.2.2.1 k' hk').1
  · rw [upd_ne (by omega)]; exact (hW.2.2.1 k' hk').2.1
  · rw [upd_ne (by omega)]; exact (hW.2.2.1 k' hk').2.2
  · rw [upd_ne (by omega)]; exact hW.2.2.2 u' i' hu' hi'
theorem WR_3 {w : Nat → Int32} (hW : WR w) {v : Int32} (hv : withinP v 99) : WR (upd w 3 v) := by
  refine ⟨?_, ?_, fun k' hk' => ⟨?_, ?_, ?_⟩, fun u' i' hu' hi' => ?_⟩
  · rw [upd, if_pos rfl]; exact hv
  · rw [upd_ne (by omega)]; exact hW.2.1
  · rw [upd_ne (by omega)]; exact (hW.2.2.1 k' hk').1
  · rw [upd_ne (by omega)]; exact (hW.2.2.1 k' hk').2.1
  · rw [upd_ne (by omega)]; exact (hW.2.2.1 k' hk').2.2
  · rw [upd_ne (by omega)]; exact hW.2.2.2 u' i' hu' hi'
theorem WR_st {w : Nat → Int32} (hW : WR w) {k j : Nat} (hk : k < 3) (hj : j < 16) {v : Int32} (hv : withinP v (gS (nI k))) : WR (upd w (5 + 16 * k + j) v) := by
  match k, hk with
  | 0, _ => rw [show gS (nI 0) = 2 by decide] at hv; exact WR_f hW hj hv
  | 1, _ => rw [show gS (nI 1) = 99 by decide] at hv; exact WR_s hW hj hv
  | 2, _ => rw [show gS (nI 2) = 1 by decide] at hv; exact WR_r hW hj hv
theorem lc_t {k j : Nat} (hk : k < 3) (hj : j < 16) : lcO (5 + 16 * k + j) = (2 + k, j) := by
  match k, hk with
  | 0, _ => exact lc_f hj
  | 1, _ => exact lc_s hj
  | 2, _ => exact lc_r hj
theorem wr_m {σ : Sg} {m c n K : Nat} {v : Int32} (hm : m < 127) (hc : lcO m = (c, n)) (h15 : c < 15) (hK : K = 1 + c) : isWr 1 σ (st2 σ K n v) (upd (vw 1 σ) m v) := by
  subst hK
  exact wr_st2 v (isWr.rf 1 σ) hm hc h15
theorem o_up {i : Nat} {σ : Sg} (I : wI i σ) {m c n K : Nat} {v : Int32} (hm : m < 127) (hc : lcO m = (c, n)) (h15 : c < 15) (hK : K = 1 + c) (g : GR (i + 1) (upd (vw 1 σ) m v)) : wI (i + 1) (sR (st2 σ K n v) (upd (vw 1 σ) m v)) := o_row I (wr_m hm hc h15 hK) (fun _ _ => rfl) (g.cg (fun j hj => (wr_m hm hc h15 hK).1 j hj))
theorem wrU_cl {σ : Sg} {U k : Nat} {f : Nat → Int32} (h : k ≠ U) : wrU σ U f k = σ k := by funext n; simp [wrU, h]
theorem newU_rg {k : Int32} (hk : withinP k 6) : ∀ n, n < 8 → withinP (newU k n) (gK n)
  | 0, _ => hk
  | 1, _ => (by decide : withinP 0 (gK 1))
  | 2, _ => (by decide : withinP 0 (gK 2))
  | 3, _ => (by decide : withinP 0 (gK 3))
  | 4, _ => (by decide : withinP 8 (gK 4))
  | 5, _ => (by decide : withinP 0 (gK 5))
  | 6, _ => (by decide : withinP 0 (gK 6))
  | 7, _ => (by decide : withinP 0 (gK 7))
  | n + 8, h => absurd h (by omega)
theorem putU_ne {w f : Nat → Int32} {u k : Nat} (h : k < 53 + 8 * u ∨ 53 + 8 * u + 8 ≤ k) : putU w u f k = w k := by unfold putU; rw [if_neg (by omega)]
theorem WR_p {w f : Nat → Int32} (hW : WR w) {n : Nat} (hn : n < 8) (hf : ∀ k, k < 8 → withinP (f k) (gK k)) : WR (putU w n f) := by
  refine ⟨?_, ?_, fun k' hk' => ⟨?_, ?_, ?_⟩, fun u' i' hu' hi' => ?_⟩
  · rw [putU_ne (by omega)]; exact hW.1
  · rw [putU_ne (by omega)]; exact hW.2.1
  · rw [putU_ne (by omega)]; exact (hW.2.2.1 k' hk').1
  · rw [putU_ne (by omega)]; exact (hW.2.2.1 k' hk').2.1
  · rw [putU_ne (by omega)]; exact (hW.2.2.1 k' hk').2.2
  · by_cases h : u' = n
    · subst h
      unfold putU
      rw [if_pos (by omega), show 53 + 8 * u' + i' - (53 + 8 * u') = i' by omega]
      exact hf i' hi'
    · rw [putU_ne (by omega)]; exact hW.2.2.2 u' i' hu' hi'
theorem GR.um {i N : Nat} {w : Nat → Int32} {k : Int32} (h : GR i w) (hN : w 0 = nI N) (hN8 : N < 8) (hk : withinP k 6) : GR (i + 1) (cmR w N k) := by
  obtain ⟨M, t, a, b, c, d, e, f⟩ := h
  obtain rfl : M = N := nI_u b hN (by omega) (by omega)
  refine ⟨M + 1, t, by omega, ?_, fun s hs => ?_, ?_, by omega, ?_⟩
  · unfold cmR; rw [upd, if_pos rfl]
  · unfold cmR
    rw [upd_ne (by omega), putU_ne (by omega)]
    rcases c s hs with q | ⟨u, hu, q⟩
    · exact Or.inl q
    · exact Or.inr ⟨u, by omega, q⟩
  · exact WR_t (WR_p d hN8 (newU_rg hk)) (by omega) _
  · unfold cmR; rw [upd_ne (by omega), putU_ne (by omega)]; exact f
theorem goN_hi {w : Nat → Int32} {k : Nat} (h : 117 ≤ k) : ∀ n, n ≤ 8 → goN w n k = w k
  | 0, _ => rfl
  | n + 1, hn => by rw [goN, goV_lo (Or.inr h) (by omega), goN_hi h n (by omega)]
theorem tk_hi {w : Nat → Int32} {N k : Nat} (hN : N ≤ 8) (h : 117 ≤ k) : ∀ n, tkN w N n k = w k
  | 0 => rfl
  | n + 1 => by rw [tkN, tickV, upd_ne (by omega), goN_hi h N hN, tk_hi hN h n]
theorem gsW_hi {w : Nat → Int32} {k : Nat} (h : 117 ≤ k) : gsW w k = w k := by
  have := (pz_nI (w 2)).1
  rw [gsW, upd_ne (by omega), upd_ne (by omega)]
theorem gs_hi {w : Nat → Int32} {N k : Nat} (hN : N ≤ 8) (h : 117 ≤ k) : ∀ n, gsN w N n k = w k
  | 0 => rfl
  | n + 1 => by rw [gsN, gsV, tickV, upd_ne (by omega), goN_hi h N hN, gsW_hi h, gs_hi hN h n]
theorem GR.tk {i N n : Nat} {w : Nat → Int32} (h : GR i w) (hN : N ≤ 8) (hi : i ≤ 512) (hn : n ≤ 60) : GR (i + 1) (tkN w N n) := by
  obtain ⟨M, t, a, b, c, d, e, f⟩ := h
  exact ⟨M, t + n, a, by rw [tk_0]; exact b, fun s hs => by rw [tk_hi hN (by omega)]; exact c s hs, tk_WR d hN n, by omega, tk_1 f n (by omega)⟩
theorem GR.gs {i N n : Nat} {w : Nat → Int32} (h : GR i w) (hN : N ≤ 8) (hi : i ≤ 512) (hn : n ≤ 20) : GR (i + 1) (gsN w N n) := by
  obtain ⟨M, t, a, b, c, d, e, f⟩ := h
  exact ⟨M, t + n, a, by rw [gs_0]; exact b, fun s hs => by rw [gs_hi hN (by omega)]; exact c s hs, gs_WR d hN n, by omega, gs_1 f n (by omega)⟩
theorem ld_in {f : Nat → Int32} {m : Nat} : ∀ n k j, k ≤ j → j < ldN f m n k → j < 16 ∧ withinP (f j) 99
  | 0, k, j, h1, h2 => by rw [ldN] at h2; omega
  | n + 1, k, j, h1, h2 => by
    rw [ldN] at h2
    by_cases h : k < m ∧ k < 16 ∧ withinP (f k) 99
    · rw [if_pos h] at h2
      by_cases e : j = k
      · subst e; exact h.2
      · exact ld_in n (k + 1) j (by omega) h2
    · rw [if_neg h] at h2; omega
theorem ld_16 {f : Nat → Int32} {m : Nat} : ldN f m 17 0 ≤ 16 := by
  rcases Nat.lt_or_ge 16 (ldN f m 17 0) with h | h
  · exact absurd (ld_in 17 0 16 (by omega) h).1 (by omega)
  · exact h
theorem WR_ld {w f : Nat → Int32} (hW : WR w) {K : Nat} (hK : K ≤ 16) (h : ∀ j, j < K → withinP (f j) 99) : WR (ldV w f K) := by
  have ne : ∀ k, k < 21 ∨ 37 ≤ k → ldV w f K k = w k := fun k hk => by unfold ldV; rw [if_neg (by omega)]
  refine ⟨?_, ?_, fun k' hk' => ⟨?_, ?_, ?_⟩, fun u' i' hu' hi' => ?_⟩
  · rw [ne _ (by omega)]; exact hW.1
  · rw [ne _ (by omega)]; exact hW.2.1
  · rw [ne _ (by omega)]; exact (hW.2.2.1 k' hk').1
  · unfold ldV
    split
    · rename_i q; rw [show 21 + k' - 21 = k' by omega]; exact h k' (by omega)
    · exact (hW.2.2.1 k' hk').2.1
  · rw [ne _ (by omega)]; exact (hW.2.2.1 k' hk').2.2
  · rw [ne _ (by omega)]; exact hW.2.2.2 u' i' hu' hi'
theorem GR.ld {i m : Nat} {w f : Nat → Int32} (h : GR i w) : GR (i + 1) (ldV w f (ldN f m 17 0)) := by
  have h16 := ld_16 (f := f) (m := m)
  have ne : ∀ k, k < 21 ∨ 37 ≤ k → ldV w f (ldN f m 17 0) k = w k := fun k hk => by unfold ldV; rw [if_neg (by omega)]
  exact h.w (ne _ (by omega)) (ne _ (by omega)) (fun s hs => ne _ (by omega)) (fun hW => WR_ld hW h16 (fun j hj => (ld_in 17 0 j (by omega) hj).2))
theorem um_c {σ τ : Sg} {y : Int32} (e : τ 66 = vw 1 σ) : umR τ y ↔ umbP σ y := by
  show (¬ y < 0 ∧ ¬ τ 66 0 ≤ y) ↔ _
  rw [e]
  exact Iff.rfl
theorem cp_sR {τ : Sg} : cpN τ 67 66 127 = sR τ (fun j => if j < 127 then τ 67 j else τ 66 j) := by
  funext k j
  unfold cpN sR
  by_cases h : k = 66
  · subst h; simp
  · simp [h]
theorem p_step (l : Launch) (G : GG) {i : Nat} {σ : Sg} (I : Inv i σ) (hi : i ≤ 512) (x a v : Int32) : Pr l G i σ mX7_step 1 mX8_step 1 [.int x, .int a, .int v] := by
  obtain ⟨N, t, hN8, hN, hS, hW, ht, ht1⟩ := I.1.1.2
  have e0 := I.2.1
  have E := fun (τ : Sg) (es : ∀ k, 65 ≤ k → τ k = σ k) (e : τ 66 = vw 1 σ) => e_step l G τ  x a v
  refine (c_step l G σ  x a v).mono (fun r τ hc => ?_)
  rcases hc with ⟨hn, rfl, hτ⟩ | ⟨j, k, hj, hk, hx, ha, hv, rfl, hτ⟩
  · have es : ∀ k, 65 ≤ k → τ k = σ k := fun k hk => by rw [hτ]; exact fnd_ne (by omega)
    have e66 : τ 66 = vw 1 σ := (es 66 (by omega)).trans e0
    have E1 := E _ es e66
    try subst hτ
    refine ⟨_, rfl, E1.mono (fun r' υ he => ?_)⟩
    have hN' := (congrFun e66 0).trans hN
    try rw [e66] at he
    rcases he with ⟨-, rfl, rfl⟩ | ⟨j, k, hj, hk, hx, ha, hv, -⟩
    · skip
      exact ⟨rfl, o_fq I.1 (by decide)⟩
    · skip
      exact absurd ⟨st_i hx hj, wi_in (g := 2) ha (by omega) (by omega), hv⟩ hn
  · have es : ∀ k, 65 ≤ k → τ k = σ k := fun k hk => by rw [hτ]; exact st2_cl _ _ _ _ (by omega)
    have e66 : τ 66 = vw 1 σ := (es 66 (by omega)).trans e0
    have E1 := E _ es e66
    try subst hτ
    refine ⟨_, rfl, E1.mono (fun r' υ he => ?_)⟩
    have hN' := (congrFun e66 0).trans hN
    try rw [e66] at he
    rcases he with ⟨hn, -⟩ | ⟨j2, k2, hj2, hk2, hx2, ha2, hv2, rfl, rfl⟩
    · skip
      exact absurd ⟨st_i hx hj, wi_in (g := 2) ha (by omega) (by omega), hv⟩ hn
    · skip
      obtain rfl := nI_u hx2 hx (by omega) (by omega)
      obtain rfl := nI_u ha2 ha (by omega) (by omega)
      rw [ha] at hv
      exact ⟨by rw [vwt hk hj], o_up I.1 (by omega) (lc_t hk hj) (by omega) (by omega) (I.1.1.2.w (upd_ne (by omega)) (upd_ne (by omega)) (fun s hs => upd_ne (by omega)) (fun q => WR_st q hk hj hv))⟩
theorem p_weather (l : Launch) (G : GG) {i : Nat} {σ : Sg} (I : Inv i σ) (hi : i ≤ 512) (a v : Int32) : Pr l G i σ mX7_weather 1 mX8_weather 1 [.int a, .int v] := by
  obtain ⟨N, t, hN8, hN, hS, hW, ht, ht1⟩ := I.1.1.2
  have e0 := I.2.1
  have E := fun (τ : Sg) (es : ∀ k, 65 ≤ k → τ k = σ k) (e : τ 66 = vw 1 σ) => e_weather l G τ  a v
  refine (c_weather l G σ  a v).mono (fun r τ hc => ?_)
  rcases hc with ⟨hn, rfl, hτ⟩ | ⟨k, hk, ha, hv, rfl, hτ⟩
  · have es : ∀ k, 65 ≤ k → τ k = σ k := fun k hk => by rw [hτ]; exact fnd_ne (by omega)
    have e66 : τ 66 = vw 1 σ := (es 66 (by omega)).trans e0
    have E1 := E _ es e66
    try subst hτ
    refine ⟨_, rfl, E1.mono (fun r' υ he => ?_)⟩
    have hN' := (congrFun e66 0).trans hN
    try rw [e66] at he
    rcases he with ⟨-, rfl, rfl⟩ | ⟨k, hk, ha, hv, -⟩
    · skip
      exact ⟨rfl, o_fq I.1 (by decide)⟩
    · skip
      exact absurd ⟨wi_in (g := 1) ha (by omega) (by omega), hv⟩ hn
  · have es : ∀ k, 65 ≤ k → τ k = σ k := fun k hk => by rw [hτ]; exact st2_cl _ _ _ _ (by omega)
    have e66 : τ 66 = vw 1 σ := (es 66 (by omega)).trans e0
    have E1 := E _ es e66
    try subst hτ
    refine ⟨_, rfl, E1.mono (fun r' υ he => ?_)⟩
    have hN' := (congrFun e66 0).trans hN
    try rw [e66] at he
    rcases he with ⟨hn, -⟩ | ⟨k2, hk2, ha2, hv2, rfl, rfl⟩
    · skip
      exact absurd ⟨wi_in (g := 1) ha (by omega) (by omega), hv⟩ hn
    · skip
      obtain rfl := nI_u ha2 ha (by omega) (by omega)
      rcases (show k2 = 0 ∨ k2 = 1 by omega) with rfl | rfl
      · exact ⟨rfl, o_up I.1 (m := 3) (c := 1) (by omega) rfl (by omega) rfl (I.1.1.2.w (upd_ne (by omega)) (upd_ne (by omega)) (fun s hs => upd_ne (by omega)) (fun q => WR_3 q hv))⟩
      · exact ⟨rfl, o_up I.1 (m := 4) (c := 1) (by omega) rfl (by omega) rfl (I.1.1.2.w (upd_ne (by omega)) (upd_ne (by omega)) (fun s hs => upd_ne (by omega)) (fun q => WR_g q hv))⟩
theorem p_umbrella (l : Launch) (G : GG) {i : Nat} {σ : Sg} (I : Inv i σ) (hi : i ≤ 512) (k : Int32) : Pr l G i σ mX7_umbrella 2 mX8_umbrella 2 [.int k] := by
  obtain ⟨N, t, hN8, hN, hS, hW, ht, ht1⟩ := I.1.1.2
  have e0 := I.2.1
  have E := fun (τ : Sg) (es : ∀ k, 65 ≤ k → τ k = σ k) (e : τ 66 = vw 1 σ) => e_umbrella l G τ hN8 (by rw [e]; exact hN) k
  refine (c_umbrella l G σ hN8 hN k).mono (fun r τ hc => ?_)
  rcases hc with ⟨hn, rfl, hτ⟩ | ⟨h6, hN2, rfl, hτ⟩ | ⟨h6, hN2, rfl, hτ⟩
  · have es : ∀ k, 65 ≤ k → τ k = σ k := fun k hk => by rw [hτ]; exact fnd_ne (by omega)
    have e66 : τ 66 = vw 1 σ := (es 66 (by omega)).trans e0
    have E1 := E _ es e66
    try subst hτ
    refine ⟨_, rfl, E1.mono (fun r' υ he => ?_)⟩
    have hN' := (congrFun e66 0).trans hN
    try rw [e66] at he
    rcases he with ⟨-, rfl, rfl⟩ | ⟨h, -⟩ | ⟨h, -⟩
    · skip
      exact ⟨rfl, o_fq I.1 (by decide)⟩
    · skip
      exact absurd h hn
    · skip
      exact absurd h hn
  · have es : ∀ k, 65 ≤ k → τ k = σ k := fun k hk => by rw [hτ]; exact fnd_ne (by omega)
    have e66 : τ 66 = vw 1 σ := (es 66 (by omega)).trans e0
    have E1 := E _ es e66
    try subst hτ
    refine ⟨_, rfl, E1.mono (fun r' υ he => ?_)⟩
    have hN' := (congrFun e66 0).trans hN
    try rw [e66] at he
    rcases he with ⟨h, -⟩ | ⟨-, -, rfl, rfl⟩ | ⟨-, h, -⟩
    · skip
      exact absurd h6 h
    · skip
      exact ⟨rfl, o_fq I.1 (by decide)⟩
    · skip
      omega
  · have es : ∀ k, 65 ≤ k → τ k = σ k := fun k hk => by rw [hτ, st2_cl _ _ _ _ (by omega)]; exact wrU_cl (by omega)
    have e66 : τ 66 = vw 1 σ := (es 66 (by omega)).trans e0
    have E1 := E _ es e66
    try subst hτ
    refine ⟨_, rfl, E1.mono (fun r' υ he => ?_)⟩
    have hN' := (congrFun e66 0).trans hN
    try rw [e66] at he
    rcases he with ⟨h, -⟩ | ⟨-, h, -⟩ | ⟨-, -, rfl, rfl⟩
    · skip
      exact absurd h6 h
    · skip
      omega
    · skip
      have w1 : isWr 1 σ (wrU σ (1 + 7 + N) (newU k)) (putU (vw 1 σ) N (newU k)) := ⟨vw_wrU hN2, fun q hq => wrU_cl (by omega)⟩
      have w2 : isWr 1 σ (st2 (wrU σ (8 + N) (newU k)) 1 2 (nI (N + 1))) (cmR (vw 1 σ) N k) := wr_st2 (W := 1) (m := 0) (c := 0) (i := 2) _ w1 (by omega) rfl (by omega)
      exact ⟨rfl, o_row I.1 w2 (fun _ _ => rfl) ((I.1.1.2.um hN hN2 h6).cg (fun j hj => w2.1 j hj))⟩
theorem p_change (l : Launch) (G : GG) {i : Nat} {σ : Sg} (I : Inv i σ) (hi : i ≤ 512) (x a v : Int32) : Pr l G i σ mX7_change 1 mX8_change 1 [.int x, .int a, .int v] := by
  obtain ⟨N, t, hN8, hN, hS, hW, ht, ht1⟩ := I.1.1.2
  have e0 := I.2.1
  have E := fun (τ : Sg) (es : ∀ k, 65 ≤ k → τ k = σ k) (e : τ 66 = vw 1 σ) => e_change l G τ hN8 (by rw [e]; exact hN) x a v
  refine (c_change l G σ hN8 hN x a v).mono (fun r τ hc => ?_)
  rcases hc with ⟨hn, rfl, hτ⟩ | ⟨u, k, hu, hk, hx, ha, hv, rfl, hτ⟩
  · have es : ∀ k, 65 ≤ k → τ k = σ k := fun k hk => by rw [hτ]; exact fnd_ne (by omega)
    have e66 : τ 66 = vw 1 σ := (es 66 (by omega)).trans e0
    have E1 := E _ es e66
    try subst hτ
    refine ⟨_, rfl, E1.mono (fun r' υ he => ?_)⟩
    have hN' := (congrFun e66 0).trans hN
    try rw [e66] at he
    rcases he with ⟨-, rfl, rfl⟩ | ⟨u, k, hu, hk, hx, ha, hv, -⟩
    · skip
      exact ⟨rfl, o_fq I.1 (by decide)⟩
    · skip
      exact absurd ⟨um_in hN hN8 hu hx, wi_in (g := 7) ha (by omega) (by omega), by rw [ha, nI_clamp (by omega)]; exact hv⟩ hn
  · have es : ∀ k, 65 ≤ k → τ k = σ k := fun k hk => by rw [hτ]; exact st2_cl _ _ _ _ (by omega)
    have e66 : τ 66 = vw 1 σ := (es 66 (by omega)).trans e0
    have E1 := E _ es e66
    try subst hτ
    refine ⟨_, rfl, E1.mono (fun r' υ he => ?_)⟩
    have hN' := (congrFun e66 0).trans hN
    try rw [e66] at he
    rcases he with ⟨hn, -⟩ | ⟨u2, k2, hu2, hk2, hx2, ha2, hv2, rfl, rfl⟩
    · skip
      exact absurd ⟨um_in hN' hN8 hu hx, wi_in (g := 7) ha (by omega) (by omega), by rw [ha, nI_clamp (by omega)]; exact hv⟩ hn
    · skip
      obtain rfl := nI_u hx2 hx (by omega) (by omega)
      obtain rfl := nI_u ha2 ha (by omega) (by omega)
      exact ⟨by rw [vwu (by omega) hk], o_up I.1 (by omega) (lc_u (by omega) hk) (by omega) (by omega) (I.1.1.2.w (upd_ne (by omega)) (upd_ne (by omega)) (fun s hs => upd_ne (by omega)) (fun q => WR_u q (by omega) hk hv))⟩
theorem p_go (l : Launch) (G : GG) {i : Nat} {σ : Sg} (I : Inv i σ) (hi : i ≤ 512) (x : Int32) : Pr l G i σ mX7_go 4 mX8_go 6 [.int x] := by
  obtain ⟨N, t, hN8, hN, hS, hW, ht, ht1⟩ := I.1.1.2
  have e0 := I.2.1
  have E := fun (τ : Sg) (es : ∀ k, 65 ≤ k → τ k = σ k) (e : τ 66 = vw 1 σ) => e_go l G τ hN8 (by rw [e]; exact hN) (by rw [e]; exact hW) (t := t) (by omega) (by rw [e]; exact ht1) x
  refine (c_go l G σ hN8 hN x).mono (fun r τ hc => ?_)
  rcases hc with ⟨hn, rfl, hτ⟩ | ⟨h1, h2, h3, rfl, hτ⟩ | ⟨h1, h2, h3, hw, rfl⟩
  · have es : ∀ k, 65 ≤ k → τ k = σ k := fun k hk => by rw [hτ]; exact fnd_ne (by omega)
    have e66 : τ 66 = vw 1 σ := (es 66 (by omega)).trans e0
    have E1 := E _ es e66
    try subst hτ
    refine ⟨_, rfl, E1.mono (fun r' υ he => ?_)⟩
    have hN' := (congrFun e66 0).trans hN
    try rw [e66] at he
    rcases he with ⟨-, rfl, rfl⟩ | ⟨h1, h2, -⟩ | ⟨m, hm, hx, h1, h2, -⟩
    · skip
      exact ⟨rfl, o_fq I.1 (by decide)⟩
    · skip
      exact absurd h2 (hn.elim (fun q => absurd q h1) id)
    · skip
      exact absurd h2 (hn.elim (fun q => absurd q h1) id)
  · have es : ∀ k, 65 ≤ k → τ k = σ k := fun k hk => by rw [hτ]; exact fnd_ne (by omega)
    have e66 : τ 66 = vw 1 σ := (es 66 (by omega)).trans e0
    have E1 := E _ es e66
    try subst hτ
    refine ⟨_, rfl, E1.mono (fun r' υ he => ?_)⟩
    have hN' := (congrFun e66 0).trans hN
    try rw [e66] at he
    rcases he with ⟨hn, -⟩ | ⟨-, -, -, rfl, rfl⟩ | ⟨m, hm, hx, -, -, h, -⟩
    · skip
      exact absurd h2 (hn.elim (fun q => absurd q h1) id)
    · skip
      exact ⟨rfl, o_fq I.1 (by decide)⟩
    · skip
      exact absurd h h3
  · have es : ∀ k, 65 ≤ k → τ k = σ k := fun k hk => hw.2 k (by omega)
    have e66 : τ 66 = vw 1 σ := (es 66 (by omega)).trans e0
    have E1 := E _ es e66
    try subst hτ
    refine ⟨_, rfl, E1.mono (fun r' υ he => ?_)⟩
    have hN' := (congrFun e66 0).trans hN
    try rw [e66] at he
    rcases he with ⟨hn, -⟩ | ⟨-, -, h, -⟩ | ⟨m, hm, hx, -, -, -, rfl, rfl⟩
    · skip
      exact absurd h2 (hn.elim (fun q => absurd q h1) id)
    · skip
      exact absurd h3 h
    · skip
      subst hx
      rw [nI_clamp (by omega)] at hw
      exact ⟨by rw [or_cg (p := fun u => tkN (vw 1 σ) N m (53 + 8 * u + 1) = 16) (q := fun u => τ (8 + u) 1 = 16) (dq := fun _ => inferInstance) N (fun u hu => by rw [← hw.1 _ (by omega), vwu (by omega) (by omega)])], o_row I.1 hw (fun _ _ => rfl) ((I.1.1.2.tk hN8 hi hm).cg (fun j hj => hw.1 j hj))⟩
theorem p_gusts (l : Launch) (G : GG) {i : Nat} {σ : Sg} (I : Inv i σ) (hi : i ≤ 512) (x : Int32) : Pr l G i σ mX7_gusts 4 mX8_gusts 6 [.int x] := by
  obtain ⟨N, t, hN8, hN, hS, hW, ht, ht1⟩ := I.1.1.2
  have e0 := I.2.1
  have E := fun (τ : Sg) (es : ∀ k, 65 ≤ k → τ k = σ k) (e : τ 66 = vw 1 σ) => e_gusts l G τ hN8 (by rw [e]; exact hN) (by rw [e]; exact hW) (t := t) (by omega) (by rw [e]; exact ht1) x
  refine (c_gusts l G σ hN8 hN x).mono (fun r τ hc => ?_)
  rcases hc with ⟨hn, rfl, hτ⟩ | ⟨h1, h2, h3, rfl, hτ⟩ | ⟨h1, h2, h3, hw, rfl⟩
  · have es : ∀ k, 65 ≤ k → τ k = σ k := fun k hk => by rw [hτ]; exact fnd_ne (by omega)
    have e66 : τ 66 = vw 1 σ := (es 66 (by omega)).trans e0
    have E1 := E _ es e66
    try subst hτ
    refine ⟨_, rfl, E1.mono (fun r' υ he => ?_)⟩
    have hN' := (congrFun e66 0).trans hN
    try rw [e66] at he
    rcases he with ⟨-, rfl, rfl⟩ | ⟨h1, h2, -⟩ | ⟨m, hm, hx, h1, h2, -⟩
    · skip
      exact ⟨rfl, o_fq I.1 (by decide)⟩
    · skip
      exact absurd h2 (hn.elim (fun q => absurd q h1) id)
    · skip
      exact absurd h2 (hn.elim (fun q => absurd q h1) id)
  · have es : ∀ k, 65 ≤ k → τ k = σ k := fun k hk => by rw [hτ]; exact fnd_ne (by omega)
    have e66 : τ 66 = vw 1 σ := (es 66 (by omega)).trans e0
    have E1 := E _ es e66
    try subst hτ
    refine ⟨_, rfl, E1.mono (fun r' υ he => ?_)⟩
    have hN' := (congrFun e66 0).trans hN
    try rw [e66] at he
    rcases he with ⟨hn, -⟩ | ⟨-, -, -, rfl, rfl⟩ | ⟨m, hm, hx, -, -, h, -⟩
    · skip
      exact absurd h2 (hn.elim (fun q => absurd q h1) id)
    · skip
      exact ⟨rfl, o_fq I.1 (by decide)⟩
    · skip
      exact absurd h h3
  · have es : ∀ k, 65 ≤ k → τ k = σ k := fun k hk => hw.2 k (by omega)
    have e66 : τ 66 = vw 1 σ := (es 66 (by omega)).trans e0
    have E1 := E _ es e66
    try subst hτ
    refine ⟨_, rfl, E1.mono (fun r' υ he => ?_)⟩
    have hN' := (congrFun e66 0).trans hN
    try rw [e66] at he
    rcases he with ⟨hn, -⟩ | ⟨-, -, h, -⟩ | ⟨m, hm, hx, -, -, -, rfl, rfl⟩
    · skip
      exact absurd h2 (hn.elim (fun q => absurd q h1) id)
    · skip
      exact absurd h3 h
    · skip
      subst hx
      rw [nI_clamp (by omega)] at hw
      rw [nI_clamp (by omega)]
      exact ⟨rfl, o_row I.1 hw (fun _ _ => rfl) ((I.1.1.2.gs hN8 hi hm).cg (fun j hj => hw.1 j hj))⟩
theorem p_seed (l : Launch) (G : GG) {i : Nat} {σ : Sg} (I : Inv i σ) (hi : i ≤ 512) (v : Int32) : Pr l G i σ mX7_seed 0 mX8_seed 1 [.int v] := by
  obtain ⟨N, t, hN8, hN, hS, hW, ht, ht1⟩ := I.1.1.2
  have e0 := I.2.1
  have E := fun (τ : Sg) (es : ∀ k, 65 ≤ k → τ k = σ k) (e : τ 66 = vw 1 σ) => e_seed l G τ  v
  refine (c_seed l G σ  v).mono (fun r τ hc => ?_)
  rcases hc with ⟨rfl, hτ⟩
  · have es : ∀ k, 65 ≤ k → τ k = σ k := fun k hk => by rw [hτ]; exact st2_cl _ _ _ _ (by omega)
    have e66 : τ 66 = vw 1 σ := (es 66 (by omega)).trans e0
    have E1 := E _ es e66
    try subst hτ
    refine ⟨_, rfl, E1.mono (fun r' υ he => ?_)⟩
    have hN' := (congrFun e66 0).trans hN
    try rw [e66] at he
    rcases he with ⟨rfl, rfl⟩
    · skip
      exact ⟨rfl, o_up I.1 (m := 2) (c := 0) (by omega) rfl (by omega) rfl (I.1.1.2.w (upd_ne (by omega)) (upd_ne (by omega)) (fun s hs => upd_ne (by omega)) (fun q => WR_t q (by omega) _))⟩
theorem GR.hd {i N s : Nat} {w : Nat → Int32} {y : Int32} (h : GR i w) (hN : w 0 = nI N) (hN8 : N ≤ 8) (hs : s < 10) (hy : y = -1 ∨ ∃ u, u < N ∧ y = nI u) : GR (i + 1) (upd w (117 + s) y) := by
  obtain ⟨M, t, a, b, c, d, e, f⟩ := h
  obtain rfl : M = N := nI_u b hN (by omega) (by omega)
  refine ⟨M, t, a, by rw [upd_ne (by omega)]; exact b, fun s' hs' => ?_, WR_t d (by omega) _, by omega, by rw [upd_ne (by omega)]; exact f⟩
  unfold upd
  split
  · exact hy
  · exact c s' hs'
theorem p_hold (l : Launch) (G : GG) {i : Nat} {σ : Sg} (I : Inv i σ) (hi : i ≤ 512) (x y : Int32) : Pr l G i σ mX7_hold 1 mX8_hold 1 [.int x, .int y] := by
  obtain ⟨N, t, hN8, hN, hS, hW, ht, ht1⟩ := I.1.1.2
  have e0 := I.2.1
  have E := fun (τ : Sg) (es : ∀ k, 65 ≤ k → τ k = σ k) (e : τ 66 = vw 1 σ) => e_hold l G τ  x y
  refine (c_hold l G σ  x y).mono (fun r τ hc => ?_)
  rcases hc with ⟨hn, rfl, hτ⟩ | ⟨s, hs, hx, hy, rfl, hτ⟩
  · have es : ∀ k, 65 ≤ k → τ k = σ k := fun k hk => by rw [hτ]; exact fnd_ne (by omega)
    have e66 : τ 66 = vw 1 σ := (es 66 (by omega)).trans e0
    have E1 := E _ es e66
    try subst hτ
    refine ⟨_, rfl, E1.mono (fun r' υ he => ?_)⟩
    have hN' := (congrFun e66 0).trans hN
    try rw [e66] at he
    rcases he with ⟨-, rfl, rfl⟩ | ⟨s, hs, hx, hy, -⟩
    · skip
      exact ⟨rfl, o_fq I.1 (by decide)⟩
    · skip
      exact absurd ⟨wi_in (g := 9) hx (by omega) (by omega), hy.imp id (um_c e66).mp⟩ hn
  · have es : ∀ k, 65 ≤ k → τ k = σ k := fun k hk => by rw [hτ]; exact st2_cl _ _ _ _ (by omega)
    have e66 : τ 66 = vw 1 σ := (es 66 (by omega)).trans e0
    have E1 := E _ es e66
    try subst hτ
    refine ⟨_, rfl, E1.mono (fun r' υ he => ?_)⟩
    have hN' := (congrFun e66 0).trans hN
    try rw [e66] at he
    rcases he with ⟨hn, -⟩ | ⟨s2, hs2, hx2, -, rfl, rfl⟩
    · skip
      exact absurd ⟨wi_in (g := 9) hx (by omega) (by omega), hy.imp id (um_c e66).mpr⟩ hn
    · skip
      obtain rfl := nI_u hx2 hx (by omega) (by omega)
      exact ⟨rfl, o_up I.1 (by omega) (lc_p hs) (by omega) rfl (I.1.1.2.hd hN hN8 hs (hy.imp id (umb_nI hN8 hN)))⟩
theorem p_load (l : Launch) (G : GG) {i : Nat} {σ : Sg} (I : Inv i σ) (hi : i ≤ 512) (x : Int32) : Pr l G i σ mX7_load 1 mX8_load 2 [.int x] := by
  obtain ⟨N, t, hN8, hN, hS, hW, ht, ht1⟩ := I.1.1.2
  have e0 := I.2.1
  have E := fun (τ : Sg) (es : ∀ k, 65 ≤ k → τ k = σ k) (e : τ 66 = vw 1 σ) => e_load l G τ (fun s hs => by rw [es 73 (by omega)]; exact I.szR s hs) x
  refine (c_load l G σ I.szP x).mono (fun r τ hc => ?_)
  rcases hc with ⟨hn, rfl, hτ⟩ | ⟨s, m, hs, hx, hm, hm4, ⟨hb, rfl, hτ⟩ | ⟨hb, rfl, hw⟩⟩
  · have es : ∀ k, 65 ≤ k → τ k = σ k := fun k hk => by rw [hτ]; exact fnd_ne (by omega)
    have e66 : τ 66 = vw 1 σ := (es 66 (by omega)).trans e0
    have E1 := E _ es e66
    have e72 := es 72 (by omega)
    have e73 := es 73 (by omega)
    try subst hτ
    refine ⟨_, rfl, E1.mono (fun r' υ he => ?_)⟩
    have hN' := (congrFun e66 0).trans hN
    try rw [e66] at he
    try rw [e72] at he
    try rw [e73] at he
    rcases he with ⟨-, rfl, rfl⟩ | ⟨s, m, hs, hx, -⟩
    · skip
      exact ⟨rfl, o_fq I.1 (by decide)⟩
    · skip
      exact absurd (sh_i hx hs) hn
  · have es : ∀ k, 65 ≤ k → τ k = σ k := fun k hk => by rw [hτ]; exact fnd_ne (by omega)
    have e66 : τ 66 = vw 1 σ := (es 66 (by omega)).trans e0
    have E1 := E _ es e66
    have e72 := es 72 (by omega)
    have e73 := es 73 (by omega)
    try subst hτ
    refine ⟨_, rfl, E1.mono (fun r' υ he => ?_)⟩
    have hN' := (congrFun e66 0).trans hN
    try rw [e66] at he
    try rw [e72] at he
    try rw [e73] at he
    rcases he with ⟨hn, -⟩ | ⟨s2, m2, hs2, hx2, hm2, hm24, ⟨-, rfl, rfl⟩ | ⟨h, -⟩⟩
    · skip
      exact absurd (sh_i hx hs) hn
    · skip
      exact ⟨rfl, o_fq I.1 (by decide)⟩
    · skip
      obtain rfl := nI_u hx2 hx (by omega) (by omega)
      exact absurd ((I.bt hs).mp hb) h
  · have es : ∀ k, 65 ≤ k → τ k = σ k := fun k hk => hw.2 k (by omega)
    have e66 : τ 66 = vw 1 σ := (es 66 (by omega)).trans e0
    have E1 := E _ es e66
    have e72 := es 72 (by omega)
    have e73 := es 73 (by omega)
    try subst hτ
    refine ⟨_, rfl, E1.mono (fun r' υ he => ?_)⟩
    have hN' := (congrFun e66 0).trans hN
    try rw [e66] at he
    try rw [e72] at he
    try rw [e73] at he
    rcases he with ⟨hn, -⟩ | ⟨s2, m2, hs2, hx2, hm2, hm24, ⟨h, -⟩ | ⟨-, rfl, rfl⟩⟩
    · skip
      exact absurd (sh_i hx hs) hn
    · skip
      obtain rfl := nI_u hx2 hx (by omega) (by omega)
      try rw [e72] at h
      exact absurd ((I.bt hs).mpr h) hb
    · skip
      obtain rfl := nI_u hx2 hx (by omega) (by omega)
      try rw [e73] at hm2
      obtain rfl := I.sz hs hm hm4 hm2 hm24
      have en : nb τ s2 = σ (58 + 2 * s2) := by rw [I.2.2.2.2 _ hs]; unfold nb; rw [es 74 (by omega)]
      rw [en]
      exact ⟨rfl, o_row I.1 hw (fun _ _ => rfl) (I.1.1.2.ld.cg (fun j hj => hw.1 j hj))⟩
theorem p_undo (l : Launch) (G : GG) {i : Nat} {σ : Sg} (I : Inv i σ) (hi : i ≤ 512) : Pr l G i σ mX7_undo 3 mX8_undo 1 [] := by
  obtain ⟨N, t, hN8, hN, hS, hW, ht, ht1⟩ := I.1.1.2
  have e0 := I.2.1
  have E := fun (τ : Sg) (es : ∀ k, 65 ≤ k → τ k = σ k) (e : τ 66 = vw 1 σ) => e_undo l G τ  
  refine (c_undo l G σ  ).mono (fun r τ hc => ?_)
  rcases hc with ⟨h0, rfl, hτ⟩ | ⟨h0, rfl, hw⟩
  · have es : ∀ k, 65 ≤ k → τ k = σ k := fun k hk => by rw [hτ]; exact fnd_ne (by omega)
    have e66 : τ 66 = vw 1 σ := (es 66 (by omega)).trans e0
    have E1 := E _ es e66
    have e65 := es 65 (by omega)
    have e67 := es 67 (by omega)
    try subst hτ
    refine ⟨_, rfl, E1.mono (fun r' υ he => ?_)⟩
    have hN' := (congrFun e66 0).trans hN
    try rw [e66] at he
    try rw [e65] at he
    try rw [e67] at he
    rcases he with ⟨-, rfl, rfl⟩ | ⟨h, -⟩
    · skip
      exact ⟨rfl, o_fq I.1 (by decide)⟩
    · skip
      exact absurd (I.1.2.1.1.trans h0) h
  · have es : ∀ k, 65 ≤ k → τ k = σ k := fun k hk => hw.2 k (by omega)
    have e66 : τ 66 = vw 1 σ := (es 66 (by omega)).trans e0
    have E1 := E _ es e66
    have e65 := es 65 (by omega)
    have e67 := es 67 (by omega)
    try subst hτ
    refine ⟨_, rfl, E1.mono (fun r' υ he => ?_)⟩
    have hN' := (congrFun e66 0).trans hN
    try rw [e66] at he
    try rw [e65] at he
    try rw [e67] at he
    rcases he with ⟨h, -⟩ | ⟨-, rfl, rfl⟩
    · skip
      exact absurd (I.1.2.1.1.symm.trans h) h0
    · skip
      refine ⟨by rw [I.2.2.1 h0], ?_⟩
      rw [cp_sR]
      exact o_row I.1 hw (fun j hj => by rw [if_pos hj, e67, I.2.2.1 h0]) ((I.1.2.1.2 h0).2.up.cg (fun j hj => hw.1 j hj))

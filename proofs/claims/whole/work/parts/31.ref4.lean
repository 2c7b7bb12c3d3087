/-! walks of the reference: the row with one umbrella further on -/
def alR (w : Nat → Int32) (u : Nat) (s : WS) : Nat → Int32 := upd (putU w u s.2) 1 s.1
theorem alR_0 (w : Nat → Int32) (u : Nat) : alR w u (w 1, um w u) = w := by
  funext k
  unfold alR upd
  split
  · rename_i h; rw [h]
  · unfold putU um
    split
    · rename_i h; show w _ = w k; congr 1; omega
    · rfl
theorem alR_u {w : Nat → Int32} {u : Nat} {s : WS} {i : Nat} (hi : i < 8) : alR w u s (53 + 8 * u + i) = s.2 i := by
  unfold alR
  rw [upd, if_neg (by omega), putU, if_pos (by omega), show 53 + 8 * u + i - (53 + 8 * u) = i by omega]
theorem alR_1 (w : Nat → Int32) (u : Nat) (s : WS) : alR w u s 1 = s.1 := by unfold alR; rw [upd, if_pos rfl]
theorem alR_ne {w : Nat → Int32} {u : Nat} {s : WS} {k : Nat} (h1 : k ≠ 1) (h : k < 53 + 8 * u ∨ 53 + 8 * u + 8 ≤ k) : alR w u s k = w k := by
  unfold alR
  rw [upd, if_neg h1, putU, if_neg (by omega)]
theorem goA_al {w : Nat → Int32} {u : Nat} (hu : u < 8) (s : WS) : goV (alR w u s) u = alR w u (s.1, (wF w s).2) := by
  have e1 : alR w u s (53 + 8 * u + 1) = s.2 1 := alR_u (by omega)
  have ho : ∀ k, (k < 53 + 8 * u ∨ 53 + 8 * u + 8 ≤ k) → goV (alR w u s) u k = alR w u (s.1, (wF w s).2) k := fun k hk => by
    rw [show goV (alR w u s) u k = alR w u s k by unfold goV; split <;> first | (unfold putU; rw [if_neg (by omega)]) | rfl]
    by_cases h1 : k = 1
    · subst h1; rw [alR_1, alR_1]
    · rw [alR_ne h1 hk, alR_ne h1 hk]
  have hi : ∀ i, i < 8 → goV (alR w u s) u (53 + 8 * u + i) = (wF w s).2 i := fun i hi => by
    show _ = goA (fun k => w (5 + k)) (fun k => w (21 + k)) (fun k => w (37 + k)) (w 3) (w 4) s.1 s.2 i
    unfold goA
    by_cases hs : stepP (s.2 1)
    · obtain ⟨j, hj, e⟩ := stepP_nI hs
      rw [goV_at hj (e1.trans e), if_pos hs, putU, if_pos (by omega), show 53 + 8 * u + i - (53 + 8 * u) = i by omega, e, nI_clamp (by omega)]
      have hn : jn j < 16 := by unfold jn; split <;> omega
      unfold goW
      rw [alR_1, alR_ne (k := 3) (by omega) (by omega), alR_ne (k := 4) (by omega) (by omega)]
      have h1 : alR w u s (5 + j) = w (5 + j) := alR_ne (by omega) (by omega)
      have h2 : alR w u s (5 + jn j) = w (5 + jn j) := alR_ne (by omega) (by omega)
      have h3 : alR w u s (21 + j) = w (21 + j) := alR_ne (by omega) (by omega)
      have h4 : alR w u s (37 + j) = w (37 + j) := alR_ne (by omega) (by omega)
      exact (goU_congr (fr := fun k => alR w u s (5 + k)) (fr' := fun k => w (5 + k)) (sn := fun k => alR w u s (21 + k)) (sn' := fun k => w (21 + k)) (ro := fun k => alR w u s (37 + k)) (ro' := fun k => w (37 + k)) (u := um (alR w u s) u) (u' := s.2) h1 h2 h3 h4 (fun i hi => alR_u hi)).1 i hi
    · rw [if_neg hs, goV, if_neg (by rw [e1]; exact hs)]; exact alR_u hi
  funext k
  rcases Nat.lt_or_ge k (53 + 8 * u) with q | q
  · exact ho k (Or.inl q)
  · rcases Nat.lt_or_ge k (53 + 8 * u + 8) with q2 | q2
    · obtain ⟨i, rfl⟩ : ∃ i, k = 53 + 8 * u + i := ⟨k - (53 + 8 * u), by omega⟩
      rw [hi i (by omega), alR_u (by omega)]
    · exact ho k (Or.inr q2)
theorem alR_t (w : Nat → Int32) (u : Nat) (a b : Int32) (f : Nat → Int32) : upd (alR w u (a, f)) 1 b = alR w u (b, f) := by
  funext k
  unfold alR upd
  split <;> rfl
theorem alT_al {w : Nat → Int32} {u t : Nat} (hu : u < 8) {s : WS} (h1 : s.1 = nI t) (ht : t < 99999) : alT (alR w u s) u = alR w u (wF w s) := by
  unfold alT
  rw [goA_al hu, alR_1, alR_t, show wF w s = ((wF w s).1, (wF w s).2) from rfl]
  show alR w u (s.1 + 1, _) = alR w u (mn 99999 (s.1 + 1), _)
  rw [h1, mn_tk ht]
theorem wF_WR {w : Nat → Int32} {u : Nat} (hu : u < 8) {s : WS} (h : WR (alR w u s)) : WR (alR w u (wF w s)) := by
  have h2 := WR_t (goV_WR hu h) (k := 1) (by omega) (mn 99999 (s.1 + 1))
  rw [goA_al hu, alR_t] at h2
  exact h2
theorem wF_t {w : Nat → Int32} {s : WS} {t : Nat} (h1 : s.1 = nI t) (ht : t < 99999) : (wF w s).1 = nI (t + 1) := by
  show mn 99999 (s.1 + 1) = _
  rw [h1, mn_tk ht, nI_1]
theorem rsp_wF {w x : Nat → Int32} (h3 : w 3 = x 3) (h4 : w 4 = x 4) (h : ∀ k, k < 48 → w (5 + k) = x (5 + k)) : rsp (wF w) (wF x) := fun s y q => by
  refine ⟨by show mn 99999 (s.1 + 1) = mn 99999 (y.1 + 1); rw [q.1], fun i hi => ?_⟩
  show goA _ _ _ (w 3) (w 4) s.1 s.2 i = goA _ _ _ (x 3) (x 4) y.1 y.2 i
  rw [h3, h4, q.1]
  exact goA_congr (fun k hk => h k (by omega)) (fun k hk => by have := h (16 + k) (by omega); rw [show 5 + (16 + k) = 21 + k by omega] at this; exact this) (fun k hk => by have := h (32 + k) (by omega); rw [show 5 + (32 + k) = 37 + k by omega] at this; exact this) q.2 i hi
/-- the reference's own scratch alone changes -/
def ro (σ τ : Sg) : Prop := (∀ k, k ≠ 65 → k ≠ 69 → τ k = σ k) ∧ ∀ i, i < 11 → τ 65 i = σ 65 i
theorem ro.rf (σ : Sg) : ro σ σ := ⟨fun _ _ _ => rfl, fun _ _ => rfl⟩
theorem ro.tr {σ τ ρ : Sg} (h1 : ro σ τ) (h2 : ro τ ρ) : ro σ ρ := ⟨fun k a b => (h2.1 k a b).trans (h1.1 k a b), fun i hi => (h2.2 i hi).trans (h1.2 i hi)⟩
abbrev gQ (σ : Sg) (j : Nat) (r : Option Value) (τ : Sg) : Prop := r = some (.int (fA j)) ∧ τ = fnR σ j
abbrev gW (σ : Sg) (j : Nat) (r : Option Value) (τ : Sg) : Prop := r = some (.int (fA j)) ∧ ∃ ρ, ro σ ρ ∧ τ = fnR ρ j
/-- laid aside and laid back: the row is as it was -/
theorem back_66 {σ τ : Sg} {u : Nat} {s : WS} (h : τ = sR (cpN σ 66 69 127) (alR (σ 66) u s)) (hu : u < 8) : cpN τ 69 66 127 66 = σ 66 := by
  funext i
  subst h
  simp only [cpN, sR]
  by_cases hi : i < 127
  · simp [hi, cpN]
  · simp [hi]
    exact alR_ne (by omega) (by omega)
theorem cpN_ne {σ : Sg} {a c n k : Nat} (h : k ≠ c) : cpN σ a c n k = σ k := by funext i; simp [cpN, h]
theorem um_nR {σ : Sg} {x : Int32} {N : Nat} (hN8 : N ≤ 8) (hN : σ 66 0 = nI N) (h : umR σ x) : ∃ u, u < N ∧ x = nI u := by
  obtain ⟨j, h2, rfl⟩ := nI_of h.1
  refine ⟨j, ?_, rfl⟩
  rcases Nat.lt_or_ge j N with q | q
  · exact q
  · exact absurd (by rw [hN]; exact (nI_leI (by omega) h2).mpr q) h.2

set_option maxHeartbeats 4000000 in
set_option maxRecDepth 20000 in
theorem e_follows (l : Launch) (G : GG) (σ : Sg) {u : Nat} {x : Int32} (hx : x = nI u) (hu : u < 8) (hW : WR (σ 66)) {t : Nat} (ht : t ≤ 99000) (ht1 : σ 66 1 = nI t) : CpI l G mX8_follows 6 shT [.ref (ad G 65), .int x] σ (hmR (hmW (σ 66) u)) (fun τ => ro σ τ ∧ τ 65 11 = (hmW (σ 66) u).2.2 7 ∧ τ 65 12 = (hmW (σ 66) u).2.2 6 ∧ τ 65 13 = (hmW (σ 66) u).2.2 4 ∧ τ 65 14 = σ 65 14 ∧ τ 65 15 = σ 65 15 ∧ WR (alR (σ 66) u (hmW (σ 66) u).2)) := by
  subst hx
  refine ct_intro (by decide) (Nat.le_of_ble_eq_true rfl) (fun X B R => ?_)
  show V X G shT σ [some (.ref (ad G 65)), some (.int (nI u)), none, none] [] 0
  refine r_aload_n (pc := 0) B dX8_follows_0 rfl ?_
  refine r_getr (pc := 1) B FX8_7 rfl rfl dX8_follows_1 ?_
  refine r_aload_n (pc := 4) B dX8_follows_4 rfl ?_
  refine r_getr (pc := 5) B FX8_19 rfl rfl dX8_follows_5 ?_
  refine r_cSv2 (pc := 8) B KX8_140 (e_copyRow l G _ (a := 66) (c := 69) rfl rfl (by decide)) (by decide) (Nat.le_of_ble_eq_true rfl) dX8_follows_8 ?_
  have hJ39 : ∀ (i : Nat) (s : WS), hmW (σ 66) u = (i, s) → WR (alR (σ 66) u s) → V X G shT (sR (cpN σ 66 69 127) (alR (σ 66) u s)) [some (.ref (ad G 65)), some (.int (nI u)), some (.int (nI i)), none] [] 39 := by
    intro i s hs hws
    refine r_aload_n (pc := 39) B dX8_follows_39 rfl ?_
    refine r_iload_n (pc := 40) B dX8_follows_40 rfl ?_
    refine r_cVi1 (pc := 41) B KX8_113 (e_isHome l G _ rfl hu) rfl rfl (by decide) (Nat.le_of_ble_eq_true rfl) dX8_follows_41 ?_
    rw [show sR (cpN σ 66 69 127) (alR (σ 66) u s) 66 (53 + 8 * u + 1) = s.2 1 from alR_u (w := σ 66) (u := u) (s := s) (i := 1) (by omega)]
    refine r_istore_3 (pc := 44) B dX8_follows_44 (by decide) rfl ?_
    refine r_aload_n (pc := 45) B dX8_follows_45 rfl ?_
    refine r_aload_n (pc := 46) B dX8_follows_46 rfl ?_
    refine r_iload_n (pc := 47) B dX8_follows_47 rfl ?_
    refine r_bipush (pc := 48) (x := 7) B dX8_follows_48 (by decide) ?_
    refine r_cVi2 (pc := 50) B KX8_59 (e_its l G _ (u := u) (i := 7) rfl rfl hu (by decide)) rfl rfl (by decide) (Nat.le_of_ble_eq_true rfl) dX8_follows_50 ?_
    rw [show sR (cpN σ 66 69 127) (alR (σ 66) u s) 66 (53 + 8 * u + 7) = s.2 7 from alR_u (w := σ 66) (u := u) (s := s) (i := 7) (by omega)]
    refine r_puti (pc := 53) B PX8_147 rfl rfl dX8_follows_53 ?_
    refine r_aload_n (pc := 56) B dX8_follows_56 rfl ?_
    refine r_aload_n (pc := 57) B dX8_follows_57 rfl ?_
    refine r_iload_n (pc := 58) B dX8_follows_58 rfl ?_
    refine r_bipush (pc := 59) (x := 6) B dX8_follows_59 (by decide) ?_
    refine r_cVi2 (pc := 61) B KX8_59 (e_its l G _ (u := u) (i := 6) rfl rfl hu (by decide)) rfl rfl (by decide) (Nat.le_of_ble_eq_true rfl) dX8_follows_61 ?_
    rw [show st2 (sR (cpN σ 66 69 127) (alR (σ 66) u s)) 65 11 (s.2 7) 66 (53 + 8 * u + 6) = s.2 6 from alR_u (w := σ 66) (u := u) (s := s) (i := 6) (by omega)]
    refine r_puti (pc := 64) B PX8_151 rfl rfl dX8_follows_64 ?_
    refine r_aload_n (pc := 67) B dX8_follows_67 rfl ?_
    refine r_aload_n (pc := 68) B dX8_follows_68 rfl ?_
    refine r_iload_n (pc := 69) B dX8_follows_69 rfl ?_
    refine r_iconst (pc := 70) (x := 4) B dX8_follows_70 (by decide) ?_
    refine r_cVi2 (pc := 71) B KX8_59 (e_its l G _ (u := u) (i := 4) rfl rfl hu (by decide)) rfl rfl (by decide) (Nat.le_of_ble_eq_true rfl) dX8_follows_71 ?_
    rw [show st2 (st2 (sR (cpN σ 66 69 127) (alR (σ 66) u s)) 65 11 (s.2 7)) 65 12 (s.2 6) 66 (53 + 8 * u + 4) = s.2 4 from alR_u (w := σ 66) (u := u) (s := s) (i := 4) (by omega)]
    refine r_puti (pc := 74) B PX8_154 rfl rfl dX8_follows_74 ?_
    refine r_aload_n (pc := 77) B dX8_follows_77 rfl ?_
    refine r_getr (pc := 78) B FX8_19 rfl rfl dX8_follows_78 ?_
    refine r_aload_n (pc := 81) B dX8_follows_81 rfl ?_
    refine r_getr (pc := 82) B FX8_7 rfl rfl dX8_follows_82 ?_
    refine r_cSv2 (pc := 85) B KX8_140 (e_copyRow l G _ (a := 69) (c := 66) rfl rfl (by decide)) (by decide) (Nat.le_of_ble_eq_true rfl) dX8_follows_85 ?_
    refine r_iload_n (pc := 88) B dX8_follows_88 rfl ?_
    refine r_if_eq (pc := 89) B 96 dX8_follows_89 (by decide) (fun h89 => ?_) (fun h89 => ?_)
    · skip
      refine r_iconst (pc := 96) (x := (-1)) B dX8_follows_96 (by decide) ?_
      exact r_iret (pc := 97) B R dX8_follows_97 (by
            have hb : cpN (st2 (st2 (st2 (sR (cpN σ 66 69 127) (alR (σ 66) u s)) 65 11 (s.2 7)) 65 12 (s.2 6)) 65 13 (s.2 4)) 69 66 127 66 = σ 66 := back_66 (τ := sR (cpN σ 66 69 127) (alR (σ 66) u s)) rfl hu
            have e5 : sR (cpN σ 66 69 127) (alR (σ 66) u s) 65 = σ 65 := by rw [sR_ne (by decide), cpN_ne (by decide)]
            refine ⟨?_, ⟨fun k a b => ?_, fun i hi => ?_⟩, ?_, ?_, ?_, ?_, ?_, ?_⟩
            · rw [hs]; unfold hmR; first | rw [if_pos (bI_n.mp h89)] | rw [if_neg (bI_0.mp h89)]
            · by_cases h6 : k = 66
              · subst h6; exact hb
              · rw [cpN_ne h6, st2_cl _ _ _ _ a, st2_cl _ _ _ _ a, st2_cl _ _ _ _ a, sR_ne h6, cpN_ne b]
            · rw [cpN_ne (by decide)]; simp [st2, e5, show i ≠ 11 by omega, show i ≠ 12 by omega, show i ≠ 13 by omega]
            all_goals (try rw [hs])
            all_goals first | exact hws | (rw [cpN_ne (by decide)]; simp [st2, e5]))
    · skip
      refine r_iload_n (pc := 92) B dX8_follows_92 rfl ?_
      refine r_goto (pc := 93) B 97 dX8_follows_93 (by decide) ?_
      exact r_iret (pc := 97) B R dX8_follows_97 (by
            have hb : cpN (st2 (st2 (st2 (sR (cpN σ 66 69 127) (alR (σ 66) u s)) 65 11 (s.2 7)) 65 12 (s.2 6)) 65 13 (s.2 4)) 69 66 127 66 = σ 66 := back_66 (τ := sR (cpN σ 66 69 127) (alR (σ 66) u s)) rfl hu
            have e5 : sR (cpN σ 66 69 127) (alR (σ 66) u s) 65 = σ 65 := by rw [sR_ne (by decide), cpN_ne (by decide)]
            refine ⟨?_, ⟨fun k a b => ?_, fun i hi => ?_⟩, ?_, ?_, ?_, ?_, ?_, ?_⟩
            · rw [hs]; unfold hmR; first | rw [if_pos (bI_n.mp h89)] | rw [if_neg (bI_0.mp h89)]
            · by_cases h6 : k = 66
              · subst h6; exact hb
              · rw [cpN_ne h6, st2_cl _ _ _ _ a, st2_cl _ _ _ _ a, st2_cl _ _ _ _ a, sR_ne h6, cpN_ne b]
            · rw [cpN_ne (by decide)]; simp [st2, e5, show i ≠ 11 by omega, show i ≠ 12 by omega, show i ≠ 13 by omega]
            all_goals (try rw [hs])
            all_goals first | exact hws | (rw [cpN_ne (by decide)]; simp [st2, e5]))
  refine r_iconst (pc := 11) (x := 0) B dX8_follows_11 (by decide) ?_
  refine r_istore_2 (pc := 12) B dX8_follows_12 (by decide) rfl ?_
  have hL13 : ∀ (n i : Nat) (s : WS), i + n = 200 → hmW (σ 66) u = (i + (hmN (wF (σ 66)) n s).1, (hmN (wF (σ 66)) n s).2) → WR (alR (σ 66) u s) → s.1 = nI (t + i) → V X G shT (sR (cpN σ 66 69 127) (alR (σ 66) u s)) [some (.ref (ad G 65)), some (.int (nI u)), some (.int (nI i)), none] [] 13 := by
    intro n
    induction n with
    | zero =>
      intro i s hi hm hws h1
      have ei : i = 200 := by omega
      subst ei
      refine r_iload_n (pc := 13) B dX8_follows_13 rfl ?_
      refine r_sipush (pc := 14) (x := 200) B dX8_follows_14 (by decide) ?_
      refine r_icmp_ge (pc := 17) B 39 dX8_follows_17 (by decide) (fun h17 => ?_) (fun h17 => ?_)
      · skip
        exact hJ39 200 s (by rw [hm]; rfl) hws
      · skip
        exact absurd ((nI_leI (a := 200) (b := 200) (by omega) (by omega)).mpr (Nat.le_refl _)) h17
    | succ n ih =>
      intro i s hi hm hws h1
      refine r_iload_n (pc := 13) B dX8_follows_13 rfl ?_
      refine r_sipush (pc := 14) (x := 200) B dX8_follows_14 (by decide) ?_
      refine r_icmp_ge (pc := 17) B 39 dX8_follows_17 (by decide) (fun h17 => ?_) (fun h17 => ?_)
      · skip
        exact absurd ((nI_leI (a := 200) (b := i) (by omega) (by omega)).mp h17) (by omega)
      · skip
        refine r_aload_n (pc := 20) B dX8_follows_20 rfl ?_
        refine r_iload_n (pc := 21) B dX8_follows_21 rfl ?_
        refine r_cVi1 (pc := 22) B KX8_113 (e_isHome l G _ rfl hu) rfl rfl (by decide) (Nat.le_of_ble_eq_true rfl) dX8_follows_22 ?_
        rw [show sR (cpN σ 66 69 127) (alR (σ 66) u s) 66 (53 + 8 * u + 1) = s.2 1 from alR_u (w := σ 66) (u := u) (s := s) (i := 1) (by omega)]
        refine r_if_ne (pc := 25) B 39 dX8_follows_25 (by decide) (fun h25 => ?_) (fun h25 => ?_)
        · skip
          have he : s.2 1 = 16 := bI_n.mp h25
          exact hJ39 i s (by rw [hm, hmN, if_pos he]; rfl) hws
        · skip
          have hne : ¬ s.2 1 = 16 := bI_0.mp (by grind)
          refine r_aload_n (pc := 28) B dX8_follows_28 rfl ?_
          refine r_iload_n (pc := 29) B dX8_follows_29 rfl ?_
          refine r_cVv1 (pc := 30) B KX8_144 (e_goesAlone l G _ rfl hu hws) rfl rfl (by decide) (Nat.le_of_ble_eq_true rfl) dX8_follows_30 ?_
          rw [sR_sR, sR_66, alT_al hu h1 (by omega)]
          refine r_iinc_2 (pc := 33) (y := _ + 1) B dX8_follows_33 rfl (by decide) rfl ?_
          refine r_goto (pc := 36) B 13 dX8_follows_36 (by decide) ?_
          rw [nI_1]
          exact ih (i + 1) (wF (σ 66) s) (by omega) (by rw [hm, hmN, if_neg hne]; simp only [Prod.mk.injEq, and_true]; omega) (wF_WR hu hws) (by rw [wF_t h1 (by omega)]; congr 1)
  have h0 := hL13 200 0 (σ 66 1, um (σ 66) u) (by omega) (by rw [Nat.zero_add]) (by rw [alR_0]; exact hW) ht1
  rw [alR_0, show sR (cpN σ 66 69 127) (σ 66) = cpN σ 66 69 127 by funext k i; by_cases h : k = 66 <;> simp [sR, cpN, h]] at h0
  exact h0

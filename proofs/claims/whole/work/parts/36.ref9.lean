/-! ribsFor; what the sheets tell -/
set_option maxHeartbeats 4000000 in
set_option maxRecDepth 20000 in
theorem e_ribsFor (l : Launch) (G : GG) (σ : Sg) {N : Nat} (hN8 : N ≤ 8) (hN : σ 66 0 = nI N) (hW : WR (σ 66)) {t : Nat} (ht : t ≤ 99000) (ht1 : σ 66 1 = nI t) (x : Int32) : Ct l G mX8_ribsFor 8 shT [.ref (ad G 65), .int x] σ (fun r τ => (¬ umR σ x ∧ gQ σ 0 r τ) ∨ ∃ u, u < N ∧ x = nI u ∧ ((rfN (σ 66) u 9 0 = none ∧ gW σ 3 r τ) ∨ ∃ g, g ≤ 8 ∧ rfN (σ 66) u 9 0 = some g ∧ r = some (.int (nI g)) ∧ ro σ τ)) := by
  refine ct_intro (by decide) (Nat.le_of_ble_eq_true rfl) (fun X B R => ?_)
  show V X G shT σ [some (.ref (ad G 65)), some (.int x), none, none, none] [] 0
  refine r_aload_n (pc := 0) B dX8_ribsFor_0 rfl ?_
  refine r_iload_n (pc := 1) B dX8_ribsFor_1 rfl ?_
  refine r_cVi1 (pc := 2) B KX8_89 (e_isUmbrella l G _ _) rfl rfl (by decide) (Nat.le_of_ble_eq_true rfl) dX8_ribsFor_2 ?_
  refine r_if_ne (pc := 5) B 15 dX8_ribsFor_5 (by decide) (fun h5 => ?_) (fun h5 => ?_)
  · skip
    obtain ⟨u, hu1, hu2⟩ := um_nR hN8 hN (bI_n.mp h5)
    have hu8 : u < 8 := by omega
    refine r_aload_n (pc := 15) B dX8_ribsFor_15 rfl ?_
    refine r_iload_n (pc := 16) B dX8_ribsFor_16 rfl ?_
    refine r_iconst (pc := 17) (x := 4) B dX8_ribsFor_17 (by decide) ?_
    refine r_cVi2 (pc := 18) B KX8_59 (e_its l G _ (u := u) (i := 4) hu2 rfl hu8 (by decide)) rfl rfl (by decide) (Nat.le_of_ble_eq_true rfl) dX8_ribsFor_18 ?_
    refine r_istore_2 (pc := 21) B dX8_ribsFor_21 (by decide) rfl ?_
    have hJ71 : ∀ (i : Nat) (f z : Int32) (ρ : Sg), ((f = -1 ∧ rfN (σ 66) u 9 0 = none) ∨ ∃ g, g ≤ 8 ∧ f = nI g ∧ rfN (σ 66) u 9 0 = some g) → roW σ ρ (upd (σ 66) (53 + 8 * u + 4) z) → V X G shT ρ [some (.ref (ad G 65)), some (.int x), some (.int (σ 66 (53 + 8 * u + 4))), some (.int f), some (.int (nI i))] [] 71 := by
      intro i f z ρ hc hw
      refine r_aload_n (pc := 71) B dX8_ribsFor_71 rfl ?_
      refine r_getr (pc := 72) B FX8_7 rfl rfl dX8_ribsFor_72 ?_
      refine r_iload_n (pc := 75) B dX8_ribsFor_75 rfl ?_
      refine r_iconst (pc := 76) (x := 4) B dX8_ribsFor_76 (by decide) ?_
      refine r_cSi2 (pc := 77) B KX8_70 (e_at l G _ _ (u := u) (i := 4) hu2 rfl hu8 (by decide)) (by decide) (Nat.le_of_ble_eq_true rfl) dX8_ribsFor_77 ?_
      refine r_iload_n (pc := 80) B dX8_ribsFor_80 rfl ?_
      refine r_iast (pc := 81) B rfl (ix_nI (by omega) (by decide)) dX8_ribsFor_81 ?_
      have hw0 := hw.st (53 + 8 * u + 4) (σ 66 (53 + 8 * u + 4))
      rw [upd_up, upd_id] at hw0
      have hw1 := hw0.ro
      refine r_aload_n (pc := 82) B dX8_ribsFor_82 rfl ?_
      refine r_iload_n (pc := 83) B dX8_ribsFor_83 rfl ?_
      refine r_cV (pc := 84) (As := [.int _]) (C := yX8_orNone.cls) B KX8_160 (e_orNone l G _ _) (by decide) rfl rfl rfl (Nat.le_of_ble_eq_true rfl) dX8_ribsFor_84 (fun r τ hq => ?_)
      rcases hq with ⟨z_1, rfl, rfl⟩ | ⟨z_1, rfl, rfl⟩
      · exact r_iret (pc := 87) B R dX8_ribsFor_87 (Or.inr ⟨u, hu1, hu2, Or.inl ⟨hc.elim (fun q => q.2) (fun ⟨g, g1, g2, g3⟩ => by rw [g2] at z_1; exact absurd z_1 (nI_pos (by omega))), rfl, _, hw1, rfl⟩⟩)
      · exact r_iret (pc := 87) B R dX8_ribsFor_87 (Or.inr ⟨u, hu1, hu2, Or.inr (hc.elim (fun q => absurd (by rw [q.1]; decide) z_1) (fun ⟨g, g1, g2, g3⟩ => ⟨g, g1, g3, by rw [g2], hw1⟩))⟩)
    refine r_iconst (pc := 22) (x := (-1)) B dX8_ribsFor_22 (by decide) ?_
    refine r_istore_3 (pc := 23) B dX8_ribsFor_23 (by decide) rfl ?_
    refine r_iconst (pc := 24) (x := 0) B dX8_ribsFor_24 (by decide) ?_
    refine r_istore_4 (pc := 25) B dX8_ribsFor_25 (by decide) rfl ?_
    have hL27 : ∀ (n i : Nat) (f z : Int32) (ρ : Sg), i + n = 9 → ((f = -1 ∧ rfN (σ 66) u 9 0 = rfN (σ 66) u n i) ∨ ∃ g, g ≤ 8 ∧ f = nI g ∧ rfN (σ 66) u 9 0 = some g) → roW σ ρ (upd (σ 66) (53 + 8 * u + 4) z) → V X G shT ρ [some (.ref (ad G 65)), some (.int x), some (.int (σ 66 (53 + 8 * u + 4))), some (.int f), some (.int (nI i))] [] 27 := by
      intro n
      induction n with
      | zero =>
        intro i f z ρ hi hc hw
        have ei : i = 9 := by omega
        subst ei
        refine r_iload (pc := 27) B dX8_ribsFor_27 rfl ?_
        refine r_bipush (pc := 29) (x := 8) B dX8_ribsFor_29 (by decide) ?_
        refine r_icmp_gt (pc := 31) B 71 dX8_ribsFor_31 (by decide) (fun h31 => ?_) (fun h31 => ?_)
        · skip
          exact hJ71 9 f z ρ hc hw
        · skip
          exact absurd (show (8 : Int32) < nI 9 by decide) h31
      | succ n ih =>
        intro i f z ρ hi hc hw
        refine r_iload (pc := 27) B dX8_ribsFor_27 rfl ?_
        refine r_bipush (pc := 29) (x := 8) B dX8_ribsFor_29 (by decide) ?_
        refine r_icmp_gt (pc := 31) B 71 dX8_ribsFor_31 (by decide) (fun h31 => ?_) (fun h31 => ?_)
        · skip
          exact absurd ((nI_ltI (a := 8) (b := i) (by omega) (by omega)).mp h31) (by omega)
        · skip
          refine r_iload_n (pc := 34) B dX8_ribsFor_34 rfl ?_
          refine r_if_ge (pc := 35) B 71 dX8_ribsFor_35 (by decide) (fun h35 => ?_) (fun h35 => ?_)
          · skip
            exact hJ71 i f z ρ (hc.elim (fun q => absurd h35 (by rw [q.1]; decide)) (fun q => Or.inr q)) hw
          · skip
            have hc2 := hc.elim (fun q => q.2) (fun ⟨g, g1, g2, g3⟩ => absurd (by rw [g2]; exact Int32.not_lt.mp (nI_pos (by omega))) h35)
            refine r_aload_n (pc := 38) B dX8_ribsFor_38 rfl ?_
            refine r_getr (pc := 39) B FX8_7 rfl rfl dX8_ribsFor_39 ?_
            refine r_iload_n (pc := 42) B dX8_ribsFor_42 rfl ?_
            refine r_iconst (pc := 43) (x := 4) B dX8_ribsFor_43 (by decide) ?_
            refine r_cSi2 (pc := 44) B KX8_70 (e_at l G _ _ (u := u) (i := 4) hu2 rfl hu8 (by decide)) (by decide) (Nat.le_of_ble_eq_true rfl) dX8_ribsFor_44 ?_
            refine r_iload (pc := 47) B dX8_ribsFor_47 rfl ?_
            refine r_iast (pc := 49) B rfl (ix_nI (by omega) (by decide)) dX8_ribsFor_49 ?_
            have hw0 := hw.st (53 + 8 * u + 4) (nI i)
            rw [upd_up] at hw0
            have ew : st2 ρ 66 (53 + 8 * u + 4) (nI i) 66 = upd (σ 66) (53 + 8 * u + 4) (nI i) := hw0.2.2
            refine r_aload_n (pc := 50) B dX8_ribsFor_50 rfl ?_
            refine r_iload_n (pc := 51) B dX8_ribsFor_51 rfl ?_
            refine r_cVpi1 (pc := 52) B KX8_180 (e_isWhole l G _ hu2 hu8 (by rw [ew]; exact WR_u hW hu8 (by decide) (nI_wi (g := 8) (by decide) (by omega))) ht (by rw [ew, upd, if_neg (by omega)]; exact ht1)) rfl rfl (by decide) (Nat.le_of_ble_eq_true rfl) dX8_ribsFor_52 (fun ρ1 h1 => ?_)
            have hw1 := hw0.tr h1
            rw [ew, rf_cg hu8]
            refine r_if_eq (pc := 55) B 63 dX8_ribsFor_55 (by decide) (fun h55 => ?_) (fun h55 => ?_)
            · skip
              have hz := h55
              refine r_iconst (pc := 63) (x := (-1)) B dX8_ribsFor_63 (by decide) ?_
              refine r_istore_3 (pc := 64) B dX8_ribsFor_64 (by decide) rfl ?_
              refine r_iinc_4 (pc := 65) (y := _ + 1) B dX8_ribsFor_65 rfl (by decide) rfl ?_
              refine r_goto (pc := 68) B 27 dX8_ribsFor_68 (by decide) ?_
              rw [nI_1]
              first | exact ih (i + 1) (-1) (nI i) ρ1 (by omega) (Or.inl ⟨rfl, by rw [hc2, rfN, if_pos hz]⟩) hw1 | exact ih (i + 1) (nI i) (nI i) ρ1 (by omega) (Or.inr ⟨i, by omega, rfl, by rw [hc2, rfN, if_neg hz]⟩) hw1
            · skip
              have hz := h55
              refine r_iload (pc := 58) B dX8_ribsFor_58 rfl ?_
              refine r_goto (pc := 60) B 64 dX8_ribsFor_60 (by decide) ?_
              refine r_istore_3 (pc := 64) B dX8_ribsFor_64 (by decide) rfl ?_
              refine r_iinc_4 (pc := 65) (y := _ + 1) B dX8_ribsFor_65 rfl (by decide) rfl ?_
              refine r_goto (pc := 68) B 27 dX8_ribsFor_68 (by decide) ?_
              rw [nI_1]
              first | exact ih (i + 1) (-1) (nI i) ρ1 (by omega) (Or.inl ⟨rfl, by rw [hc2, rfN, if_pos hz]⟩) hw1 | exact ih (i + 1) (nI i) (nI i) ρ1 (by omega) (Or.inr ⟨i, by omega, rfl, by rw [hc2, rfN, if_neg hz]⟩) hw1
    exact hL27 9 0 (-1) (σ 66 (53 + 8 * u + 4)) σ (by omega) (Or.inl ⟨rfl, rfl⟩) (by rw [upd_id]; exact roW.rf σ)
  · skip
    refine r_aload_n (pc := 8) B dX8_ribsFor_8 rfl ?_
    refine r_ldc (pc := 9) B q836 dX8_ribsFor_9 ?_
    refine r_cVi1 (pc := 11) B KX8_39 (e_finds l G _ (j := 0) rfl (by decide)) rfl rfl (by decide) (Nat.le_of_ble_eq_true rfl) dX8_ribsFor_11 ?_
    exact r_iret (pc := 14) B R dX8_ribsFor_14 (Or.inl ⟨fun q => bI_0.mp h5 q, rfl, rfl⟩)
abbrev szR (σ : Sg) : Prop := ∀ s, s < 4 → ∃ M, M ≤ 40 ∧ σ 73 s = nI M
theorem nx_nI : ∀ s, s < 4 → ∀ k, k < 40 → (40 : Int32) * nI s + nI k = nI (40 * s + k) := by decide +kernel
abbrev nb (σ : Sg) (s : Nat) : Nat → Int32 := fun k => σ 74 (40 * s + k)
theorem flB_b {F : WS → WS} {f : Nat → Int32} {n i : Nat} {s : WS} : flB F f n i s = 0 ∨ flB F f n i s = 1 := by
  by_cases h : flN F f n i s
  · exact Or.inr (flB_t h)
  · exact Or.inl (flB_f h)

set_option maxHeartbeats 4000000 in
set_option maxRecDepth 20000 in
theorem e_isTold (l : Launch) (G : GG) (σ : Sg) {e u m : Nat} {x y : Int32} (hx : x = nI e) (he : e < 4) (hy : y = nI u) (hu : u < 8) (hm : m ≤ 40) (hz : σ 73 e = nI m) (hW : WR (σ 66)) {t : Nat} (ht : t ≤ 99000) (ht1 : σ 66 1 = nI t) : CpI l G mX8_isTold 6 shT [.ref (ad G 65), .int x, .int y] σ (flB (wF (σ 66)) (nb σ e) m 0 (σ 66 1, um (σ 66) u)) (ro σ) := by
  subst hx hy
  refine ct_intro (by decide) (Nat.le_of_ble_eq_true rfl) (fun X B R => ?_)
  show V X G shT σ [some (.ref (ad G 65)), some (.int (nI e)), some (.int (nI u)), none, none, none] [] 0
  refine r_aload_n (pc := 0) B dX8_isTold_0 rfl ?_
  refine r_getr (pc := 1) B FX8_7 rfl rfl dX8_isTold_1 ?_
  refine r_aload_n (pc := 4) B dX8_isTold_4 rfl ?_
  refine r_getr (pc := 5) B FX8_19 rfl rfl dX8_isTold_5 ?_
  refine r_cSv2 (pc := 8) B KX8_140 (e_copyRow l G _ (a := 66) (c := 69) rfl rfl (by decide)) (by decide) (Nat.le_of_ble_eq_true rfl) dX8_isTold_8 ?_
  have hJ79 : ∀ (i : Nat) (q : Int32) (s : WS) (tl : Option Value), q = flB (wF (σ 66)) (nb σ e) m 0 (σ 66 1, um (σ 66) u) → V X G shT (sR (cpN σ 66 69 127) (alR (σ 66) u s)) [some (.ref (ad G 65)), some (.int (nI e)), some (.int (nI u)), some (.int q), some (.int (nI i)), tl] [] 79 := by
    intro i q s tl hq
    refine r_aload_n (pc := 79) B dX8_isTold_79 rfl ?_
    refine r_getr (pc := 80) B FX8_19 rfl rfl dX8_isTold_80 ?_
    refine r_aload_n (pc := 83) B dX8_isTold_83 rfl ?_
    refine r_getr (pc := 84) B FX8_7 rfl rfl dX8_isTold_84 ?_
    refine r_cSv2 (pc := 87) B KX8_140 (e_copyRow l G _ (a := 69) (c := 66) rfl rfl (by decide)) (by decide) (Nat.le_of_ble_eq_true rfl) dX8_isTold_87 ?_
    refine r_iload_n (pc := 90) B dX8_isTold_90 rfl ?_
    exact r_zret (pc := 91) B R (by rw [hq]; exact flB_b) dX8_isTold_91 ⟨by rw [hq], ro_back σ hu s⟩
  refine r_iconst (pc := 11) (x := 1) B dX8_isTold_11 (by decide) ?_
  refine r_istore_3 (pc := 12) B dX8_isTold_12 (by decide) rfl ?_
  refine r_iconst (pc := 13) (x := 0) B dX8_isTold_13 (by decide) ?_
  refine r_istore_4 (pc := 14) B dX8_isTold_14 (by decide) rfl ?_
  have hL16 : ∀ (p i : Nat) (q : Int32) (s : WS) (tl : Option Value), i + p = m → ((q = 1 ∧ (flN (wF (σ 66)) (nb σ e) m 0 (σ 66 1, um (σ 66) u) ↔ flN (wF (σ 66)) (nb σ e) p i s)) ∨ (q = 0 ∧ ¬ flN (wF (σ 66)) (nb σ e) m 0 (σ 66 1, um (σ 66) u))) → WR (alR (σ 66) u s) → s.1 = nI (t + i) → V X G shT (sR (cpN σ 66 69 127) (alR (σ 66) u s)) [some (.ref (ad G 65)), some (.int (nI e)), some (.int (nI u)), some (.int q), some (.int (nI i)), tl] [] 16 := by
    intro p
    induction p with
    | zero =>
      intro i q s tl hi hc hws h1
      have ei : i = m := by omega
      subst ei
      refine r_iload (pc := 16) B dX8_isTold_16 rfl ?_
      refine r_aload_n (pc := 18) B dX8_isTold_18 rfl ?_
      refine r_getr (pc := 19) B FX8_31 rfl rfl dX8_isTold_19 ?_
      refine r_iload_n (pc := 22) B dX8_isTold_22 rfl ?_
      refine r_iald (pc := 23) B rfl (ix_nI he (by decide)) dX8_isTold_23 ?_
      rw [show sR (cpN σ 66 69 127) (alR (σ 66) u s) 73 e = nI i from hz]
      refine r_icmp_ge (pc := 24) B 79 dX8_isTold_24 (by decide) (fun h24 => ?_) (fun h24 => ?_)
      · skip
        exact hJ79 i q s tl (hc.elim (fun z => by rw [z.1, flB_t (z.2.mpr trivial)]) (fun z => by rw [z.1, flB_f z.2]))
      · skip
        exact absurd ((nI_leI (by omega) (by omega)).mpr (Nat.le_refl _)) h24
    | succ p ih =>
      intro i q s tl hi hc hws h1
      refine r_iload (pc := 16) B dX8_isTold_16 rfl ?_
      refine r_aload_n (pc := 18) B dX8_isTold_18 rfl ?_
      refine r_getr (pc := 19) B FX8_31 rfl rfl dX8_isTold_19 ?_
      refine r_iload_n (pc := 22) B dX8_isTold_22 rfl ?_
      refine r_iald (pc := 23) B rfl (ix_nI he (by decide)) dX8_isTold_23 ?_
      rw [show sR (cpN σ 66 69 127) (alR (σ 66) u s) 73 e = nI m from hz]
      refine r_icmp_ge (pc := 24) B 79 dX8_isTold_24 (by decide) (fun h24 => ?_) (fun h24 => ?_)
      · skip
        exact absurd ((nI_leI (a := m) (b := i) (by omega) (by omega)).mp h24) (by omega)
      · skip
        refine r_iload_n (pc := 27) B dX8_isTold_27 rfl ?_
        refine r_if_eq (pc := 28) B 79 dX8_isTold_28 (by decide) (fun h28 => ?_) (fun h28 => ?_)
        · skip
          exact hJ79 i q s tl (hc.elim (fun z => absurd (z.1.symm.trans h28) (by decide)) (fun z => by rw [z.1, flB_f z.2]))
        · skip
          have hc2 := hc.elim (fun z => z.2) (fun z => absurd z.1 h28)
          refine r_aload_n (pc := 31) B dX8_isTold_31 rfl ?_
          refine r_getr (pc := 32) B FX8_34 rfl rfl dX8_isTold_32 ?_
          refine r_bipush (pc := 35) (x := 40) B dX8_isTold_35 (by decide) ?_
          refine r_iload_n (pc := 37) B dX8_isTold_37 rfl ?_
          refine r_imul (pc := 38) B dX8_isTold_38 ?_
          refine r_iload (pc := 39) B dX8_isTold_39 rfl ?_
          refine r_iadd (pc := 41) B dX8_isTold_41 ?_
          refine r_iald (pc := 42) B rfl (ix_eq (nx_nI e he i (by omega)) (by omega) (by decide)) dX8_isTold_42 ?_
          rw [show sR (cpN σ 66 69 127) (alR (σ 66) u s) 74 (40 * e + i) = nb σ e i from rfl]
          refine r_istore_5 (pc := 43) B dX8_isTold_43 (by decide) rfl ?_
          refine r_iload (pc := 45) B dX8_isTold_45 rfl ?_
          refine r_iconst (pc := 47) (x := (-1)) B dX8_isTold_47 (by decide) ?_
          refine r_icmp_eq (pc := 48) B 62 dX8_isTold_48 (by decide) (fun h48 => ?_) (fun h48 => ?_)
          · skip
            refine r_iconst (pc := 62) (x := 1) B dX8_isTold_62 (by decide) ?_
            refine r_goto (pc := 63) B 67 dX8_isTold_63 (by decide) ?_
            refine r_istore_3 (pc := 67) B dX8_isTold_67 (by decide) rfl ?_
            refine r_aload_n (pc := 68) B dX8_isTold_68 rfl ?_
            refine r_iload_n (pc := 69) B dX8_isTold_69 rfl ?_
            refine r_cVv1 (pc := 70) B KX8_144 (e_goesAlone l G _ rfl hu hws) rfl rfl (by decide) (Nat.le_of_ble_eq_true rfl) dX8_isTold_70 ?_
            rw [sR_sR, sR_66, alT_al hu h1 (by omega)]
            refine r_iinc_4 (pc := 73) (y := _ + 1) B dX8_isTold_73 rfl (by decide) rfl ?_
            refine r_goto (pc := 76) B 16 dX8_isTold_76 (by decide) ?_
            rw [nI_1]
            refine ih (i + 1) _ (wF (σ 66) s) _ (by omega) ?_ (wF_WR hu hws) (by rw [wF_t h1 (by omega)]; congr 1)
            first | exact Or.inl ⟨rfl, hc2.trans ⟨fun z => z.2, fun z => ⟨Or.inl h48, z⟩⟩⟩ | (by_cases q2 : nb σ e i = s.2 1; exact Or.inl ⟨(bI_t q2).symm, hc2.trans ⟨fun z => z.2, fun z => ⟨Or.inr q2, z⟩⟩⟩; exact Or.inr ⟨(bI_f q2).symm, fun z => (hc2.mp z).1.elim h48 q2⟩)
          · skip
            refine r_iload (pc := 51) B dX8_isTold_51 rfl ?_
            refine r_aload_n (pc := 53) B dX8_isTold_53 rfl ?_
            refine r_iload_n (pc := 54) B dX8_isTold_54 rfl ?_
            refine r_iconst (pc := 55) (x := 1) B dX8_isTold_55 (by decide) ?_
            refine r_cVi2 (pc := 56) B KX8_59 (e_its l G _ (u := u) (i := 1) rfl rfl hu (by decide)) rfl rfl (by decide) (Nat.le_of_ble_eq_true rfl) dX8_isTold_56 ?_
            rw [show sR (cpN σ 66 69 127) (alR (σ 66) u s) 66 (53 + 8 * u + 1) = s.2 1 from alR_u (w := σ 66) (u := u) (s := s) (i := 1) (by omega)]
            refine r_bz_icmp_ne (pc := 59) B dX8_isTold_59 dX8_isTold_62 dX8_isTold_63 dX8_isTold_66 ?_
            refine r_istore_3 (pc := 67) B dX8_isTold_67 (by decide) rfl ?_
            refine r_aload_n (pc := 68) B dX8_isTold_68 rfl ?_
            refine r_iload_n (pc := 69) B dX8_isTold_69 rfl ?_
            refine r_cVv1 (pc := 70) B KX8_144 (e_goesAlone l G _ rfl hu hws) rfl rfl (by decide) (Nat.le_of_ble_eq_true rfl) dX8_isTold_70 ?_
            rw [sR_sR, sR_66, alT_al hu h1 (by omega)]
            refine r_iinc_4 (pc := 73) (y := _ + 1) B dX8_isTold_73 rfl (by decide) rfl ?_
            refine r_goto (pc := 76) B 16 dX8_isTold_76 (by decide) ?_
            rw [nI_1]
            refine ih (i + 1) _ (wF (σ 66) s) _ (by omega) ?_ (wF_WR hu hws) (by rw [wF_t h1 (by omega)]; congr 1)
            first | exact Or.inl ⟨rfl, hc2.trans ⟨fun z => z.2, fun z => ⟨Or.inl h48, z⟩⟩⟩ | (by_cases q2 : nb σ e i = s.2 1; exact Or.inl ⟨(bI_t q2).symm, hc2.trans ⟨fun z => z.2, fun z => ⟨Or.inr q2, z⟩⟩⟩; exact Or.inr ⟨(bI_f q2).symm, fun z => (hc2.mp z).1.elim h48 q2⟩)
  have h0 := hL16 m 0 1 (σ 66 1, um (σ 66) u) none (by omega) (Or.inl ⟨rfl, Iff.rfl⟩) (by rw [alR_0]; exact hW) ht1
  rw [al_be] at h0
  exact h0
theorem fl_M {w : Nat → Int32} {g : Nat → Int32} {u f n m : Nat} (hu : u < 8) (hf : f < 8) : flN (wF (upd w (53 + 8 * u + f) (nI n))) g m 0 (upd w (53 + 8 * u + f) (nI n) 1, um (upd w (53 + 8 * u + f) (nI n)) u) ↔ ∃ q, opM w f u n = some q ∧ flN (wF q.1) g m 0 q.2 := by
  have h : flN (wF (upd w (53 + 8 * u + f) (nI n))) g m 0 (upd w (53 + 8 * u + f) (nI n) 1, um (upd w (53 + 8 * u + f) (nI n)) u) ↔ flN (wF w) g m 0 (w 1, upd (um w u) f (nI n)) := by
    refine flN_congr (M := m) (rsp_wF (by rw [upd, if_neg (by omega)]) (by rw [upd, if_neg (by omega)]) (fun k hk => by rw [upd, if_neg (by omega)])) (fun _ _ => rfl) m 0 _ _ (by omega) ⟨by show upd w (53 + 8 * u + f) (nI n) 1 = w 1; rw [upd, if_neg (by omega)], fun i hi => ?_⟩
    show upd w (53 + 8 * u + f) (nI n) (53 + 8 * u + i) = upd (um w u) f (nI n) i
    unfold upd
    by_cases e : i = f
    · rw [if_pos (by omega), if_pos e]
    · rw [if_neg (by omega), if_neg e]; rfl
  rw [h]
  exact ⟨fun q => ⟨_, rfl, q⟩, fun ⟨q, q1, q2⟩ => by cases q1; exact q2⟩

set_option maxHeartbeats 4000000 in
set_option maxRecDepth 20000 in
theorem e_couldBe (l : Launch) (G : GG) (σ : Sg) {e u m f M : Nat} {x y c : Int32} (hx : x = nI e) (he : e < 4) (hy : y = nI u) (hu : u < 8) (hcf : c = nI f) (hf : f < 8) (hM : gK f = nI M) (hM2 : M < 16) (hm : m ≤ 40) (hz : σ 73 e = nI m) (hW : WR (σ 66)) {t : Nat} (ht : t ≤ 99000) (ht1 : σ 66 1 = nI t) : CpI l G mX8_couldBe 7 shT [.ref (ad G 65), .int x, .int y, .int c] σ (orS (fun n => ∃ q, opM (σ 66) f u n = some q ∧ flN (wF q.1) (nb σ e) m 0 q.2) (flD (opM (σ 66) f) (nb σ) u e m) (M + 1)) (ro σ) := by
  subst hx hy hcf
  refine ct_intro (by decide) (Nat.le_of_ble_eq_true rfl) (fun X B R => ?_)
  show V X G shT σ [some (.ref (ad G 65)), some (.int (nI e)), some (.int (nI u)), some (.int (nI f)), none, none, none] [] 0
  refine r_aload_n (pc := 0) B dX8_couldBe_0 rfl ?_
  refine r_iload_n (pc := 1) B dX8_couldBe_1 rfl ?_
  refine r_iload_n (pc := 2) B dX8_couldBe_2 rfl ?_
  refine r_cVi2 (pc := 3) B KX8_59 (e_its l G _ rfl rfl hu hf) rfl rfl (by decide) (Nat.le_of_ble_eq_true rfl) dX8_couldBe_3 ?_
  refine r_istore_4 (pc := 6) B dX8_couldBe_6 (by decide) rfl ?_
  refine r_iconst (pc := 8) (x := 0) B dX8_couldBe_8 (by decide) ?_
  refine r_istore_5 (pc := 9) B dX8_couldBe_9 (by decide) rfl ?_
  refine r_iconst (pc := 11) (x := 0) B dX8_couldBe_11 (by decide) ?_
  refine r_istore_6 (pc := 12) B dX8_couldBe_12 (by decide) rfl ?_
  have hL14 : ∀ (n i : Nat) (q z : Int32) (ρ : Sg), i + n = M + 1 → q = orS (fun n => ∃ q, opM (σ 66) f u n = some q ∧ flN (wF q.1) (nb σ e) m 0 q.2) (flD (opM (σ 66) f) (nb σ) u e m) i → roW σ ρ (upd (σ 66) (53 + 8 * u + f) z) → V X G shT ρ [some (.ref (ad G 65)), some (.int (nI e)), some (.int (nI u)), some (.int (nI f)), some (.int (σ 66 (53 + 8 * u + f))), some (.int q), some (.int (nI i))] [] 14 := by
    intro n
    induction n with
    | zero =>
      intro i q z ρ hi hq hw
      have ei : i = M + 1 := by omega
      subst ei
      refine r_iload (pc := 14) B dX8_couldBe_14 rfl ?_
      refine r_iload_n (pc := 16) B dX8_couldBe_16 rfl ?_
      refine r_cSi1 (pc := 17) B KX8_103 (e_greatestOf l G _ _ _) (by decide) (Nat.le_of_ble_eq_true rfl) dX8_couldBe_17 ?_
      rw [gX_nI f hf, hM]
      refine r_icmp_gt (pc := 20) B 63 dX8_couldBe_20 (by decide) (fun h20 => ?_) (fun h20 => ?_)
      · skip
        refine r_aload_n (pc := 63) B dX8_couldBe_63 rfl ?_
        refine r_getr (pc := 64) B FX8_7 rfl rfl dX8_couldBe_64 ?_
        refine r_iload_n (pc := 67) B dX8_couldBe_67 rfl ?_
        refine r_iload_n (pc := 68) B dX8_couldBe_68 rfl ?_
        refine r_cSi2 (pc := 69) B KX8_70 (e_at l G _ _ rfl rfl hu hf) (by decide) (Nat.le_of_ble_eq_true rfl) dX8_couldBe_69 ?_
        refine r_iload (pc := 72) B dX8_couldBe_72 rfl ?_
        refine r_iast (pc := 74) B rfl (ix_nI (by omega) (by decide)) dX8_couldBe_74 ?_
        have hw0 := hw.st (53 + 8 * u + f) (σ 66 (53 + 8 * u + f))
        rw [upd_up, upd_id] at hw0
        have hw1 := hw0.ro
        refine r_iload (pc := 75) B dX8_couldBe_75 rfl ?_
        exact r_iret (pc := 77) B R dX8_couldBe_77 ⟨by rw [hq], hw1⟩
      · skip
        exact absurd ((nI_ltI (a := M) (b := M + 1) (by omega) (by omega)).mpr (by omega)) h20
    | succ n ih =>
      intro i q z ρ hi hq hw
      refine r_iload (pc := 14) B dX8_couldBe_14 rfl ?_
      refine r_iload_n (pc := 16) B dX8_couldBe_16 rfl ?_
      refine r_cSi1 (pc := 17) B KX8_103 (e_greatestOf l G _ _ _) (by decide) (Nat.le_of_ble_eq_true rfl) dX8_couldBe_17 ?_
      rw [gX_nI f hf, hM]
      refine r_icmp_gt (pc := 20) B 63 dX8_couldBe_20 (by decide) (fun h20 => ?_) (fun h20 => ?_)
      · skip
        exact absurd ((nI_ltI (a := M) (b := i) (by omega) (by omega)).mp h20) (by omega)
      · skip
        refine r_aload_n (pc := 23) B dX8_couldBe_23 rfl ?_
        refine r_getr (pc := 24) B FX8_7 rfl rfl dX8_couldBe_24 ?_
        refine r_iload_n (pc := 27) B dX8_couldBe_27 rfl ?_
        refine r_iload_n (pc := 28) B dX8_couldBe_28 rfl ?_
        refine r_cSi2 (pc := 29) B KX8_70 (e_at l G _ _ rfl rfl hu hf) (by decide) (Nat.le_of_ble_eq_true rfl) dX8_couldBe_29 ?_
        refine r_iload (pc := 32) B dX8_couldBe_32 rfl ?_
        refine r_iast (pc := 34) B rfl (ix_nI (by omega) (by decide)) dX8_couldBe_34 ?_
        have hw0 := hw.st (53 + 8 * u + f) (nI i)
        rw [upd_up] at hw0
        have ew : st2 ρ 66 (53 + 8 * u + f) (nI i) 66 = upd (σ 66) (53 + 8 * u + f) (nI i) := hw0.2.2
        have e73 : st2 ρ 66 (53 + 8 * u + f) (nI i) 73 = σ 73 := hw0.1 73 (by decide) (by decide) (by decide)
        have e74 : nb (st2 ρ 66 (53 + 8 * u + f) (nI i)) e = nb σ e := by funext k; show st2 ρ 66 _ _ 74 _ = _; rw [hw0.1 74 (by decide) (by decide) (by decide)]
        refine r_iload (pc := 35) B dX8_couldBe_35 rfl ?_
        refine r_aload_n (pc := 37) B dX8_couldBe_37 rfl ?_
        refine r_iload_n (pc := 38) B dX8_couldBe_38 rfl ?_
        refine r_iload_n (pc := 39) B dX8_couldBe_39 rfl ?_
        refine r_cVpi2 (pc := 40) B KX8_183 (e_isTold l G _ rfl he rfl hu hm (by rw [e73]; exact hz) (by rw [ew]; exact WR_u hW hu hf (by rw [hM]; exact nI_wi (by omega) (by omega))) ht (by rw [ew, upd, if_neg (by omega)]; exact ht1)) rfl rfl (by decide) (Nat.le_of_ble_eq_true rfl) dX8_couldBe_40 (fun ρ1 h1 => ?_)
        have hw1 := hw0.tr h1
        rw [ew, e74]
        refine r_if_eq (pc := 43) B 53 dX8_couldBe_43 (by decide) (fun h43 => ?_) (fun h43 => ?_)
        · skip
          refine r_iconst (pc := 53) (x := 0) B dX8_couldBe_53 (by decide) ?_
          refine r_ior (pc := 54) B dX8_couldBe_54 ?_
          refine r_istore_5 (pc := 55) B dX8_couldBe_55 (by decide) rfl ?_
          refine r_iinc_6 (pc := 57) (y := _ + 1) B dX8_couldBe_57 rfl (by decide) rfl ?_
          refine r_goto (pc := 60) B 14 dX8_couldBe_60 (by decide) ?_
          rw [nI_1]
          first | exact ih (i + 1) _ (nI i) ρ1 (by omega) (by rw [orS, if_neg (fun z => absurd (flB_t ((fl_M hu hf).mpr z)) (by rw [h43]; decide)), hq, or_0]) hw1 | exact ih (i + 1) _ (nI i) ρ1 (by omega) (by rw [orS, if_pos ((fl_M hu hf).mp (Classical.byContradiction (fun z => h43 (flB_f z)))), hq]) hw1
        · skip
          refine r_iconst (pc := 46) (x := 1) B dX8_couldBe_46 (by decide) ?_
          refine r_iload (pc := 47) B dX8_couldBe_47 rfl ?_
          refine r_ishl (pc := 49) B dX8_couldBe_49 ?_
          refine r_goto (pc := 50) B 54 dX8_couldBe_50 (by decide) ?_
          refine r_ior (pc := 54) B dX8_couldBe_54 ?_
          refine r_istore_5 (pc := 55) B dX8_couldBe_55 (by decide) rfl ?_
          refine r_iinc_6 (pc := 57) (y := _ + 1) B dX8_couldBe_57 rfl (by decide) rfl ?_
          refine r_goto (pc := 60) B 14 dX8_couldBe_60 (by decide) ?_
          rw [nI_1]
          first | exact ih (i + 1) _ (nI i) ρ1 (by omega) (by rw [orS, if_neg (fun z => absurd (flB_t ((fl_M hu hf).mpr z)) (by rw [h43]; decide)), hq, or_0]) hw1 | exact ih (i + 1) _ (nI i) ρ1 (by omega) (by rw [orS, if_pos ((fl_M hu hf).mp (Classical.byContradiction (fun z => h43 (flB_f z)))), hq]) hw1
  exact hL14 (M + 1) 0 0 (σ 66 (53 + 8 * u + f)) σ (by omega) rfl (by rw [upd_id]; exact roW.rf σ)
def wtF (σ : Sg) (x : Int32) : Int32 := if shP x then (if σ 72 x.toNatClampNeg < 0 then fA 5 else 0) else fA 0
def wuF (σ : Sg) (x y : Int32) : Int32 := if wtF σ x = 0 then (if umR σ y then 0 else fA 0) else wtF σ x
theorem fA_n0 : ¬ fA 0 = 0 ∧ ¬ fA 5 = 0 := by decide +kernel
theorem wt_cs (σ : Sg) (x : Int32) : (¬ shP x ∧ wtF σ x = fA 0) ∨ ∃ e, e < 4 ∧ x = nI e ∧ ((σ 72 e < 0 ∧ wtF σ x = fA 5) ∨ (¬ σ 72 e < 0 ∧ wtF σ x = 0)) := by
  by_cases h : shP x
  · obtain ⟨e, he, rfl⟩ := sh_nI h
    refine Or.inr ⟨e, he, rfl, ?_⟩
    unfold wtF
    rw [if_pos h, nI_clamp (by omega)]
    by_cases q : σ 72 e < 0
    · exact Or.inl ⟨q, by rw [if_pos q]⟩
    · exact Or.inr ⟨q, by rw [if_neg q]⟩
  · exact Or.inl ⟨h, by unfold wtF; rw [if_neg h]⟩

set_option maxHeartbeats 4000000 in
set_option maxRecDepth 20000 in
theorem e_wants (l : Launch) (G : GG) (σ : Sg) (x : Int32) : CtI l G mX8_wants 1 shT [.ref (ad G 65), .int x] σ (wtF σ x) σ := by
  refine ct_intro (by decide) (Nat.le_of_ble_eq_true rfl) (fun X B R => ?_)
  show V X G shT σ [some (.ref (ad G 65)), some (.int x)] [] 0
  refine r_iload_n (pc := 0) B dX8_wants_0 rfl ?_
  refine r_cSi1 (pc := 1) B KX8_296 (e_isSheet l G _ _ _) (by decide) (Nat.le_of_ble_eq_true rfl) dX8_wants_1 ?_
  refine r_if_ne (pc := 4) B 12 dX8_wants_4 (by decide) (fun h4 => ?_) (fun h4 => ?_)
  · skip
    have hs := bI_n.mp h4
    obtain ⟨e, he1, he2⟩ := sh_nI hs
    refine r_aload_n (pc := 12) B dX8_wants_12 rfl ?_
    refine r_getr (pc := 13) B FX8_28 rfl rfl dX8_wants_13 ?_
    refine r_iload_n (pc := 16) B dX8_wants_16 rfl ?_
    refine r_iald (pc := 17) B rfl (ix_eq he2 he1 (by decide)) dX8_wants_17 ?_
    refine r_if_ge (pc := 18) B 27 dX8_wants_18 (by decide) (fun h18 => ?_) (fun h18 => ?_)
    · skip
      refine r_iconst (pc := 27) (x := 0) B dX8_wants_27 (by decide) ?_
      exact r_iret (pc := 28) B R dX8_wants_28 ⟨by unfold wtF; first | (rw [if_neg hs]; rfl) | (rw [if_pos hs, he2, nI_clamp (by omega), if_pos (Int32.not_le.mp h18)]; rfl) | (rw [if_pos hs, he2, nI_clamp (by omega), if_neg (Int32.not_lt.mpr h18)]), rfl⟩
    · skip
      refine r_ldc_w (pc := 21) B q1062 dX8_wants_21 ?_
      refine r_goto (pc := 24) B 28 dX8_wants_24 (by decide) ?_
      exact r_iret (pc := 28) B R dX8_wants_28 ⟨by unfold wtF; first | (rw [if_neg hs]; rfl) | (rw [if_pos hs, he2, nI_clamp (by omega), if_pos (Int32.not_le.mp h18)]; rfl) | (rw [if_pos hs, he2, nI_clamp (by omega), if_neg (Int32.not_lt.mpr h18)]), rfl⟩
  · skip
    have hs := bI_0.mp (by grind : bI (shP x) = 0)
    refine r_ldc (pc := 7) B q836 dX8_wants_7 ?_
    refine r_goto (pc := 9) B 28 dX8_wants_9 (by decide) ?_
    exact r_iret (pc := 28) B R dX8_wants_28 ⟨by unfold wtF; first | (rw [if_neg hs]; rfl) | (rw [if_pos hs, he2, nI_clamp (by omega), if_pos (Int32.not_le.mp h18)]; rfl) | (rw [if_pos hs, he2, nI_clamp (by omega), if_neg (Int32.not_lt.mpr h18)]), rfl⟩
set_option maxHeartbeats 4000000 in
set_option maxRecDepth 20000 in
theorem e_wantsFor (l : Launch) (G : GG) (σ : Sg) (x y : Int32) : CtI l G mX8_wantsFor 2 shT [.ref (ad G 65), .int x, .int y] σ (wuF σ x y) σ := by
  refine ct_intro (by decide) (Nat.le_of_ble_eq_true rfl) (fun X B R => ?_)
  show V X G shT σ [some (.ref (ad G 65)), some (.int x), some (.int y)] [] 0
  refine r_aload_n (pc := 0) B dX8_wantsFor_0 rfl ?_
  refine r_iload_n (pc := 1) B dX8_wantsFor_1 rfl ?_
  refine r_cVi1 (pc := 2) B KX8_187 (e_wants l G _ _) rfl rfl (by decide) (Nat.le_of_ble_eq_true rfl) dX8_wantsFor_2 ?_
  refine r_if_eq (pc := 5) B 16 dX8_wantsFor_5 (by decide) (fun h5 => ?_) (fun h5 => ?_)
  · skip
    refine r_aload_n (pc := 16) B dX8_wantsFor_16 rfl ?_
    refine r_iload_n (pc := 17) B dX8_wantsFor_17 rfl ?_
    refine r_cVi1 (pc := 18) B KX8_89 (e_isUmbrella l G _ _) rfl rfl (by decide) (Nat.le_of_ble_eq_true rfl) dX8_wantsFor_18 ?_
    refine r_if_eq (pc := 21) B 28 dX8_wantsFor_21 (by decide) (fun h21 => ?_) (fun h21 => ?_)
    · skip
      refine r_ldc (pc := 28) B q836 dX8_wantsFor_28 ?_
      exact r_iret (pc := 30) B R dX8_wantsFor_30 ⟨by unfold wuF; first | (rw [if_neg h5]) | (rw [if_pos h5, if_pos (bI_n.mp h21)]) | (rw [if_pos h5, if_neg (bI_0.mp h21)]; rfl), rfl⟩
    · skip
      refine r_iconst (pc := 24) (x := 0) B dX8_wantsFor_24 (by decide) ?_
      refine r_goto (pc := 25) B 30 dX8_wantsFor_25 (by decide) ?_
      exact r_iret (pc := 30) B R dX8_wantsFor_30 ⟨by unfold wuF; first | (rw [if_neg h5]) | (rw [if_pos h5, if_pos (bI_n.mp h21)]) | (rw [if_pos h5, if_neg (bI_0.mp h21)]; rfl), rfl⟩
  · skip
    refine r_aload_n (pc := 8) B dX8_wantsFor_8 rfl ?_
    refine r_iload_n (pc := 9) B dX8_wantsFor_9 rfl ?_
    refine r_cVi1 (pc := 10) B KX8_187 (e_wants l G _ _) rfl rfl (by decide) (Nat.le_of_ble_eq_true rfl) dX8_wantsFor_10 ?_
    refine r_goto (pc := 13) B 30 dX8_wantsFor_13 (by decide) ?_
    exact r_iret (pc := 30) B R dX8_wantsFor_30 ⟨by unfold wuF; first | (rw [if_neg h5]) | (rw [if_pos h5, if_pos (bI_n.mp h21)]) | (rw [if_pos h5, if_neg (bI_0.mp h21)]; rfl), rfl⟩
abbrev ftR (σ : Sg) (N M : Nat) (OP : Nat → Nat → OPT) (x y : Int32) (r : Option Value) (τ : Sg) : Prop := (¬ shP x ∧ gQ σ 0 r τ) ∨ ∃ s m, s < 4 ∧ x = nI s ∧ σ 73 s = nI m ∧ m ≤ 40 ∧ ((σ 72 s < 0 ∧ gQ σ 5 r τ) ∨ (¬ σ 72 s < 0 ∧ ¬ umR σ y ∧ gQ σ 0 r τ) ∨ (¬ σ 72 s < 0 ∧ ∃ u, u < N ∧ y = nI u ∧ r = some (.int (orS (fun n => ∃ q, OP u n = some q ∧ flN (wF q.1) (nb σ s) m 0 q.2) (flD OP (nb σ) u s m) M)) ∧ ro σ τ))
theorem wu_cs {σ : Sg} {N : Nat} (hN8 : N ≤ 8) (hN : σ 66 0 = nI N) (hz : szR σ) (x y : Int32) : (∃ j, j < 7 ∧ wuF σ x y = fA j ∧ ¬ fA j = 0 ∧ ∀ M OP, ftR σ N M OP x y (some (.int (fA j))) (fnR σ j)) ∨ ∃ s m u, s < 4 ∧ x = nI s ∧ σ 73 s = nI m ∧ m ≤ 40 ∧ ¬ σ 72 s < 0 ∧ u < N ∧ y = nI u ∧ wuF σ x y = 0 := by
  rcases wt_cs σ x with ⟨h1, h2⟩ | ⟨e, he, hx, ⟨h1, h2⟩ | ⟨h1, h2⟩⟩
  · exact Or.inl ⟨0, by decide, by unfold wuF; rw [h2, if_neg fA_n0.1], fA_n0.1, fun M OP => Or.inl ⟨h1, rfl, rfl⟩⟩
  · obtain ⟨m, hm, hm2⟩ := hz e he
    exact Or.inl ⟨5, by decide, by unfold wuF; rw [h2, if_neg fA_n0.2], fA_n0.2, fun M OP => Or.inr ⟨e, m, he, hx, hm2, hm, Or.inl ⟨h1, rfl, rfl⟩⟩⟩
  · obtain ⟨m, hm, hm2⟩ := hz e he
    by_cases q : umR σ y
    · obtain ⟨u, hu, hy⟩ := um_nR hN8 hN q
      exact Or.inr ⟨e, m, u, he, hx, hm2, hm, h1, hu, hy, by unfold wuF; rw [if_pos h2, if_pos q]⟩
    · exact Or.inl ⟨0, by decide, by unfold wuF; rw [if_pos h2, if_neg q], fA_n0.1, fun M OP => Or.inr ⟨e, m, he, hx, hm2, hm, Or.inr (Or.inl ⟨h1, q, rfl, rfl⟩)⟩⟩

set_option maxHeartbeats 4000000 in
set_option maxRecDepth 20000 in
theorem e_fits (l : Launch) (G : GG) (σ : Sg) {N : Nat} (hN8 : N ≤ 8) (hN : σ 66 0 = nI N) (hz : szR σ) (hW : WR (σ 66)) {t : Nat} (ht : t ≤ 99000) (ht1 : σ 66 1 = nI t) (x y : Int32) : Ct l G mX8_fits 8 shT [.ref (ad G 65), .int x, .int y] σ (ftR σ N 4 (opM (σ 66) 3) x y) := by
  refine ct_intro (by decide) (Nat.le_of_ble_eq_true rfl) (fun X B R => ?_)
  show V X G shT σ [some (.ref (ad G 65)), some (.int x), some (.int y), none] [] 0
  refine r_aload_n (pc := 0) B dX8_fits_0 rfl ?_
  refine r_iload_n (pc := 1) B dX8_fits_1 rfl ?_
  refine r_iload_n (pc := 2) B dX8_fits_2 rfl ?_
  refine r_cVi2 (pc := 3) B KX8_190 (e_wantsFor l G _ _ _) rfl rfl (by decide) (Nat.le_of_ble_eq_true rfl) dX8_fits_3 ?_
  rcases wu_cs hN8 hN hz x y with ⟨j, hj, hv, hn, hQ⟩ | ⟨e, m, u, he, hx, hm2, hm, hb, hu, hy, hv⟩
  · rw [hv]
    refine r_istore_3 (pc := 6) B dX8_fits_6 (by decide) rfl ?_
    refine r_iload_n (pc := 7) B dX8_fits_7 rfl ?_
    refine r_if_eq (pc := 8) B 19 dX8_fits_8 (by decide) (fun h8 => ?_) (fun h8 => ?_)
    · skip
      exact absurd h8 hn
    · skip
      refine r_aload_n (pc := 11) B dX8_fits_11 rfl ?_
      refine r_iload_n (pc := 12) B dX8_fits_12 rfl ?_
      refine r_cVi1 (pc := 13) B KX8_39 (e_finds l G _ (j := j) rfl hj) rfl rfl (by decide) (Nat.le_of_ble_eq_true rfl) dX8_fits_13 ?_
      refine r_goto (pc := 16) B 26 dX8_fits_16 (by decide) ?_
      exact r_iret (pc := 26) B R dX8_fits_26 (hQ _ _)
  · rw [hv]
    refine r_istore_3 (pc := 6) B dX8_fits_6 (by decide) rfl ?_
    refine r_iload_n (pc := 7) B dX8_fits_7 rfl ?_
    refine r_if_eq (pc := 8) B 19 dX8_fits_8 (by decide) (fun h8 => ?_) (fun h8 => ?_)
    · skip
      refine r_aload_n (pc := 19) B dX8_fits_19 rfl ?_
      refine r_iload_n (pc := 20) B dX8_fits_20 rfl ?_
      refine r_iload_n (pc := 21) B dX8_fits_21 rfl ?_
      refine r_iconst (pc := 22) (x := 3) B dX8_fits_22 (by decide) ?_
      refine r_cVpi3 (pc := 23) B KX8_193 (e_couldBe l G _ (e := e) (u := u) (f := 3) (M := 3) hx he hy (by omega) rfl (by decide) rfl (by decide) hm hm2 hW ht ht1) rfl rfl (by decide) (Nat.le_of_ble_eq_true rfl) dX8_fits_23 (fun ρ1 h1 => ?_)
      exact r_iret (pc := 26) B R dX8_fits_26 (Or.inr ⟨e, m, he, hx, hm2, hm, Or.inr (Or.inr ⟨hb, u, hu, hy, rfl, h1⟩)⟩)
    · skip
      exact absurd rfl h8
set_option maxHeartbeats 4000000 in
set_option maxRecDepth 20000 in
theorem e_kinds (l : Launch) (G : GG) (σ : Sg) {N : Nat} (hN8 : N ≤ 8) (hN : σ 66 0 = nI N) (hz : szR σ) (hW : WR (σ 66)) {t : Nat} (ht : t ≤ 99000) (ht1 : σ 66 1 = nI t) (x y : Int32) : Ct l G mX8_kinds 8 shT [.ref (ad G 65), .int x, .int y] σ (ftR σ N 7 (opM (σ 66) 0) x y) := by
  refine ct_intro (by decide) (Nat.le_of_ble_eq_true rfl) (fun X B R => ?_)
  show V X G shT σ [some (.ref (ad G 65)), some (.int x), some (.int y), none] [] 0
  refine r_aload_n (pc := 0) B dX8_kinds_0 rfl ?_
  refine r_iload_n (pc := 1) B dX8_kinds_1 rfl ?_
  refine r_iload_n (pc := 2) B dX8_kinds_2 rfl ?_
  refine r_cVi2 (pc := 3) B KX8_190 (e_wantsFor l G _ _ _) rfl rfl (by decide) (Nat.le_of_ble_eq_true rfl) dX8_kinds_3 ?_
  rcases wu_cs hN8 hN hz x y with ⟨j, hj, hv, hn, hQ⟩ | ⟨e, m, u, he, hx, hm2, hm, hb, hu, hy, hv⟩
  · rw [hv]
    refine r_istore_3 (pc := 6) B dX8_kinds_6 (by decide) rfl ?_
    refine r_iload_n (pc := 7) B dX8_kinds_7 rfl ?_
    refine r_if_eq (pc := 8) B 19 dX8_kinds_8 (by decide) (fun h8 => ?_) (fun h8 => ?_)
    · skip
      exact absurd h8 hn
    · skip
      refine r_aload_n (pc := 11) B dX8_kinds_11 rfl ?_
      refine r_iload_n (pc := 12) B dX8_kinds_12 rfl ?_
      refine r_cVi1 (pc := 13) B KX8_39 (e_finds l G _ (j := j) rfl hj) rfl rfl (by decide) (Nat.le_of_ble_eq_true rfl) dX8_kinds_13 ?_
      refine r_goto (pc := 16) B 26 dX8_kinds_16 (by decide) ?_
      exact r_iret (pc := 26) B R dX8_kinds_26 (hQ _ _)
  · rw [hv]
    refine r_istore_3 (pc := 6) B dX8_kinds_6 (by decide) rfl ?_
    refine r_iload_n (pc := 7) B dX8_kinds_7 rfl ?_
    refine r_if_eq (pc := 8) B 19 dX8_kinds_8 (by decide) (fun h8 => ?_) (fun h8 => ?_)
    · skip
      refine r_aload_n (pc := 19) B dX8_kinds_19 rfl ?_
      refine r_iload_n (pc := 20) B dX8_kinds_20 rfl ?_
      refine r_iload_n (pc := 21) B dX8_kinds_21 rfl ?_
      refine r_iconst (pc := 22) (x := 0) B dX8_kinds_22 (by decide) ?_
      refine r_cVpi3 (pc := 23) B KX8_193 (e_couldBe l G _ (e := e) (u := u) (f := 0) (M := 6) hx he hy (by omega) rfl (by decide) rfl (by decide) hm hm2 hW ht ht1) rfl rfl (by decide) (Nat.le_of_ble_eq_true rfl) dX8_kinds_23 (fun ρ1 h1 => ?_)
      exact r_iret (pc := 26) B R dX8_kinds_26 (Or.inr ⟨e, m, he, hx, hm2, hm, Or.inr (Or.inr ⟨hb, u, hu, hy, rfl, h1⟩)⟩)
    · skip
      exact absurd rfl h8

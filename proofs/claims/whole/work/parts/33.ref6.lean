/-! ahead, whup, first -/
theorem ro_back (σ : Sg) {u : Nat} (hu : u < 8) (s : WS) : ro σ (cpN (sR (cpN σ 66 69 127) (alR (σ 66) u s)) 69 66 127) := by
  refine ⟨fun k a b => ?_, fun i hi => ?_⟩
  · by_cases h6 : k = 66
    · subst h6; exact back_66 rfl hu
    · rw [cpN_ne h6, sR_ne h6, cpN_ne b]
  · rw [cpN_ne (by decide), sR_ne (by decide), cpN_ne (by decide)]
theorem al_be (σ : Sg) (u : Nat) : sR (cpN σ 66 69 127) (alR (σ 66) u (σ 66 1, um (σ 66) u)) = cpN σ 66 69 127 := by
  rw [alR_0]; funext k i; by_cases h : k = 66 <;> simp [sR, cpN, h]
theorem tn_up : ∀ a, a < 1000 → nI a = mn 999 (nI a + 1) ∨ nI a < mn 999 (nI a + 1) := by decide +kernel
theorem step6 {w : Nat → Int32} {u : Nat} (hu : u < 8) {s : WS} (h : WR (alR w u s)) : (wF w s).2 6 = s.2 6 ∨ s.2 6 < (wF w s).2 6 := by
  have h6 := h.2.2.2 u 6 hu (by omega)
  rw [alR_u (by omega)] at h6
  obtain ⟨a, ha, e⟩ := wi_nI (g := 999) (by decide) h6
  show goA _ _ _ _ _ _ _ 6 = _ ∨ _ < goA _ _ _ _ _ _ _ 6
  unfold goA
  split
  · unfold goU
    simp only [show ¬ (6 = 1) by decide, show ¬ (6 = 2) by decide, show ¬ (6 = 4) by decide, show ¬ (6 = 5) by decide, if_false, if_true]
    split
    · rw [e]; rcases tn_up a (by omega) with q | q
      · exact Or.inl q.symm
      · exact Or.inr q
    · exact Or.inl rfl
  · exact Or.inl rfl
theorem i32_ne {a b : Int32} (h : a < b) : ¬ b = a := fun e => by rw [e] at h; exact Int32.lt_irrefl h

set_option maxHeartbeats 4000000 in
set_option maxRecDepth 20000 in
theorem e_ahead (l : Launch) (G : GG) (σ : Sg) {N : Nat} (hN8 : N ≤ 8) (hN : σ 66 0 = nI N) (hW : WR (σ 66)) {t : Nat} (ht : t ≤ 99000) (ht1 : σ 66 1 = nI t) (x a n : Int32) : Ct l G mX8_ahead 6 shT [.ref (ad G 65), .int x, .int a, .int n] σ (fun r τ => (¬ (umR σ x ∧ ¬ a < 1 ∧ ¬ 7 < a ∧ withinP n 100) ∧ gQ σ 0 r τ) ∨ ∃ u k m, u < N ∧ x = nI u ∧ 1 ≤ k ∧ k < 8 ∧ a = nI k ∧ m ≤ 100 ∧ n = nI m ∧ ro σ τ ∧ r = some (.int ((itN (wF (σ 66)) m (σ 66 1, um (σ 66) u)).2 k))) := by
  refine ct_intro (by decide) (Nat.le_of_ble_eq_true rfl) (fun X B R => ?_)
  show V X G shT σ [some (.ref (ad G 65)), some (.int x), some (.int a), some (.int n), none] [] 0
  refine r_aload_n (pc := 0) B dX8_ahead_0 rfl ?_
  refine r_iload_n (pc := 1) B dX8_ahead_1 rfl ?_
  refine r_cVi1 (pc := 2) B KX8_89 (e_isUmbrella l G _ _) rfl rfl (by decide) (Nat.le_of_ble_eq_true rfl) dX8_ahead_2 ?_
  refine r_if_eq (pc := 5) B 32 dX8_ahead_5 (by decide) (fun h5 => ?_) (fun h5 => ?_)
  · skip
    refine r_aload_n (pc := 32) B dX8_ahead_32 rfl ?_
    refine r_ldc (pc := 33) B q836 dX8_ahead_33 ?_
    refine r_cVi1 (pc := 35) B KX8_39 (e_finds l G _ (j := 0) rfl (by decide)) rfl rfl (by decide) (Nat.le_of_ble_eq_true rfl) dX8_ahead_35 ?_
    exact r_iret (pc := 38) B R dX8_ahead_38 (Or.inl ⟨by first | exact fun q => bI_0.mp h5 q.1 | exact fun q => bI_0.mp h17 ⟨q.2.1, q.2.2.1⟩ | exact fun q => bI_0.mp h29 q.2.2.2, rfl, rfl⟩)
  · skip
    obtain ⟨u, hu1, hu2⟩ := um_nR hN8 hN (bI_n.mp h5)
    have hu8 : u < 8 := by omega
    refine r_iload_n (pc := 8) B dX8_ahead_8 rfl ?_
    refine r_i2l (pc := 9) B dX8_ahead_9 ?_
    refine r_lconst (pc := 10) (x := 1) B dX8_ahead_10 rfl ?_
    refine r_ldc2_w (pc := 11) B q910 dX8_ahead_11 ?_
    refine r_cSi3 (pc := 14) B KX8_49 (e_isIn l G _ _ (v := a) (a := 1) (b := 7) rfl rfl rfl) (by decide) (Nat.le_of_ble_eq_true rfl) dX8_ahead_14 ?_
    refine r_if_eq (pc := 17) B 32 dX8_ahead_17 (by decide) (fun h17 => ?_) (fun h17 => ?_)
    · skip
      refine r_aload_n (pc := 32) B dX8_ahead_32 rfl ?_
      refine r_ldc (pc := 33) B q836 dX8_ahead_33 ?_
      refine r_cVi1 (pc := 35) B KX8_39 (e_finds l G _ (j := 0) rfl (by decide)) rfl rfl (by decide) (Nat.le_of_ble_eq_true rfl) dX8_ahead_35 ?_
      exact r_iret (pc := 38) B R dX8_ahead_38 (Or.inl ⟨by first | exact fun q => bI_0.mp h5 q.1 | exact fun q => bI_0.mp h17 ⟨q.2.1, q.2.2.1⟩ | exact fun q => bI_0.mp h29 q.2.2.2, rfl, rfl⟩)
    · skip
      have ha := bI_n.mp h17
      obtain ⟨k, hk, hk2⟩ := wi_nI (x := a) (g := 7) (by decide) ⟨fun z => ha.1 (Int32.lt_trans z (by decide)), ha.2⟩
      have hk1 : 1 ≤ k := by rcases Nat.eq_zero_or_pos k with q | q; exact absurd (by rw [hk2, q]; decide) ha.1; exact q
      replace hk : k < 8 := by omega
      refine r_iload_n (pc := 20) B dX8_ahead_20 rfl ?_
      refine r_i2l (pc := 21) B dX8_ahead_21 ?_
      refine r_lconst (pc := 22) (x := 0) B dX8_ahead_22 rfl ?_
      refine r_ldc2_w (pc := 23) B q969 dX8_ahead_23 ?_
      refine r_cSi3 (pc := 26) B KX8_49 (e_isIn l G _ _ (v := n) (a := 0) (b := 100) rfl rfl rfl) (by decide) (Nat.le_of_ble_eq_true rfl) dX8_ahead_26 ?_
      refine r_if_ne (pc := 29) B 39 dX8_ahead_29 (by decide) (fun h29 => ?_) (fun h29 => ?_)
      · skip
        obtain ⟨m, hm, hm2⟩ := wi_nI (g := 100) (by decide) (bI_n.mp h29)
        refine r_aload_n (pc := 39) B dX8_ahead_39 rfl ?_
        refine r_getr (pc := 40) B FX8_7 rfl rfl dX8_ahead_40 ?_
        refine r_aload_n (pc := 43) B dX8_ahead_43 rfl ?_
        refine r_getr (pc := 44) B FX8_19 rfl rfl dX8_ahead_44 ?_
        refine r_cSv2 (pc := 47) B KX8_140 (e_copyRow l G _ (a := 66) (c := 69) rfl rfl (by decide)) (by decide) (Nat.le_of_ble_eq_true rfl) dX8_ahead_47 ?_
        refine r_iconst (pc := 50) (x := 0) B dX8_ahead_50 (by decide) ?_
        refine r_istore_4 (pc := 51) B dX8_ahead_51 (by decide) rfl ?_
        have hL53 : ∀ (p i : Nat) (s : WS), i + p = m → itN (wF (σ 66)) p s = itN (wF (σ 66)) m (σ 66 1, um (σ 66) u) → WR (alR (σ 66) u s) → s.1 = nI (t + i) → V X G shT (sR (cpN σ 66 69 127) (alR (σ 66) u s)) [some (.ref (ad G 65)), some (.int x), some (.int a), some (.int n), some (.int (nI i))] [] 53 := by
          intro p
          induction p with
          | zero =>
            intro i s hi hit hws h1
            have ei : i = m := by omega
            subst ei
            refine r_iload (pc := 53) B dX8_ahead_53 rfl ?_
            refine r_iload_n (pc := 55) B dX8_ahead_55 rfl ?_
            refine r_icmp_ge (pc := 56) B 70 dX8_ahead_56 (by decide) (fun h56 => ?_) (fun h56 => ?_)
            · skip
              refine r_aload_n (pc := 70) B dX8_ahead_70 rfl ?_
              refine r_iload_n (pc := 71) B dX8_ahead_71 rfl ?_
              refine r_iload_n (pc := 72) B dX8_ahead_72 rfl ?_
              rw [hk2]
              refine r_cVi2 (pc := 73) B KX8_59 (e_its l G _ hu2 rfl hu8 hk) rfl rfl (by decide) (Nat.le_of_ble_eq_true rfl) dX8_ahead_73 ?_
              rw [show sR (cpN σ 66 69 127) (alR (σ 66) u s) 66 (53 + 8 * u + k) = s.2 k from alR_u (w := σ 66) (u := u) (s := s) (i := k) hk]
              refine r_istore_4 (pc := 76) B dX8_ahead_76 (by decide) rfl ?_
              refine r_aload_n (pc := 78) B dX8_ahead_78 rfl ?_
              refine r_getr (pc := 79) B FX8_19 rfl rfl dX8_ahead_79 ?_
              refine r_aload_n (pc := 82) B dX8_ahead_82 rfl ?_
              refine r_getr (pc := 83) B FX8_7 rfl rfl dX8_ahead_83 ?_
              refine r_cSv2 (pc := 86) B KX8_140 (e_copyRow l G _ (a := 69) (c := 66) rfl rfl (by decide)) (by decide) (Nat.le_of_ble_eq_true rfl) dX8_ahead_86 ?_
              refine r_iload (pc := 89) B dX8_ahead_89 rfl ?_
              exact r_iret (pc := 91) B R dX8_ahead_91 (Or.inr ⟨u, k, i, hu1, hu2, hk1, hk, hk2, hm, hm2, ro_back σ hu8 s, by rw [← hit]; rfl⟩)
            · skip
              exact absurd (by rw [hm2]; exact Int32.le_refl _) h56
          | succ p ih =>
            intro i s hi hit hws h1
            refine r_iload (pc := 53) B dX8_ahead_53 rfl ?_
            refine r_iload_n (pc := 55) B dX8_ahead_55 rfl ?_
            refine r_icmp_ge (pc := 56) B 70 dX8_ahead_56 (by decide) (fun h56 => ?_) (fun h56 => ?_)
            · skip
              exact absurd ((nI_leI (a := m) (b := i) (by omega) (by omega)).mp (by rw [← hm2]; exact h56)) (by omega)
            · skip
              refine r_aload_n (pc := 59) B dX8_ahead_59 rfl ?_
              refine r_iload_n (pc := 60) B dX8_ahead_60 rfl ?_
              refine r_cVv1 (pc := 61) B KX8_144 (e_goesAlone l G _ hu2 hu8 hws) rfl rfl (by decide) (Nat.le_of_ble_eq_true rfl) dX8_ahead_61 ?_
              rw [sR_sR, sR_66, alT_al hu8 h1 (by omega)]
              refine r_iinc_4 (pc := 64) (y := _ + 1) B dX8_ahead_64 rfl (by decide) rfl ?_
              refine r_goto (pc := 67) B 53 dX8_ahead_67 (by decide) ?_
              rw [nI_1]
              exact ih (i + 1) (wF (σ 66) s) (by omega) hit (wF_WR hu8 hws) (by rw [wF_t h1 (by omega)]; congr 1)
        have h0 := hL53 m 0 (σ 66 1, um (σ 66) u) (by omega) rfl (by rw [alR_0]; exact hW) ht1
        rw [al_be] at h0
        exact h0
      · skip
        refine r_aload_n (pc := 32) B dX8_ahead_32 rfl ?_
        refine r_ldc (pc := 33) B q836 dX8_ahead_33 ?_
        refine r_cVi1 (pc := 35) B KX8_39 (e_finds l G _ (j := 0) rfl (by decide)) rfl rfl (by decide) (Nat.le_of_ble_eq_true rfl) dX8_ahead_35 ?_
        exact r_iret (pc := 38) B R dX8_ahead_38 (Or.inl ⟨by first | exact fun q => bI_0.mp h5 q.1 | exact fun q => bI_0.mp h17 ⟨q.2.1, q.2.2.1⟩ | exact fun q => bI_0.mp h29 q.2.2.2, rfl, rfl⟩)
set_option maxHeartbeats 4000000 in
set_option maxRecDepth 20000 in
theorem e_whup (l : Launch) (G : GG) (σ : Sg) {N : Nat} (hN8 : N ≤ 8) (hN : σ 66 0 = nI N) (hW : WR (σ 66)) {t : Nat} (ht : t ≤ 99000) (ht1 : σ 66 1 = nI t) (x : Int32) : Ct l G mX8_whup 6 shT [.ref (ad G 65), .int x] σ (fun r τ => (¬ umR σ x ∧ gQ σ 0 r τ) ∨ ∃ u, u < N ∧ x = nI u ∧ ((∃ n, tlW (σ 66) u = some n ∧ r = some (.int (nI n)) ∧ ro σ τ) ∨ (tlW (σ 66) u = none ∧ gW σ 3 r τ))) := by
  refine ct_intro (by decide) (Nat.le_of_ble_eq_true rfl) (fun X B R => ?_)
  show V X G shT σ [some (.ref (ad G 65)), some (.int x), none, none, none] [] 0
  refine r_aload_n (pc := 0) B dX8_whup_0 rfl ?_
  refine r_iload_n (pc := 1) B dX8_whup_1 rfl ?_
  refine r_cVi1 (pc := 2) B KX8_89 (e_isUmbrella l G _ _) rfl rfl (by decide) (Nat.le_of_ble_eq_true rfl) dX8_whup_2 ?_
  refine r_if_ne (pc := 5) B 15 dX8_whup_5 (by decide) (fun h5 => ?_) (fun h5 => ?_)
  · skip
    obtain ⟨u, hu1, hu2⟩ := um_nR hN8 hN (bI_n.mp h5)
    have hu8 : u < 8 := by omega
    refine r_aload_n (pc := 15) B dX8_whup_15 rfl ?_
    refine r_getr (pc := 16) B FX8_7 rfl rfl dX8_whup_16 ?_
    refine r_aload_n (pc := 19) B dX8_whup_19 rfl ?_
    refine r_getr (pc := 20) B FX8_19 rfl rfl dX8_whup_20 ?_
    refine r_cSv2 (pc := 23) B KX8_140 (e_copyRow l G _ (a := 66) (c := 69) rfl rfl (by decide)) (by decide) (Nat.le_of_ble_eq_true rfl) dX8_whup_23 ?_
    refine r_aload_n (pc := 26) B dX8_whup_26 rfl ?_
    refine r_iload_n (pc := 27) B dX8_whup_27 rfl ?_
    refine r_bipush (pc := 28) (x := 6) B dX8_whup_28 (by decide) ?_
    refine r_cVi2 (pc := 30) B KX8_59 (e_its l G _ (u := u) (i := 6) hu2 rfl hu8 (by decide)) rfl rfl (by decide) (Nat.le_of_ble_eq_true rfl) dX8_whup_30 ?_
    rw [show cpN σ 66 69 127 66 (53 + 8 * u + 6) = um (σ 66) u 6 by rw [cpN_ne (by decide)]; rfl]
    refine r_istore_2 (pc := 33) B dX8_whup_33 (by decide) rfl ?_
    have hJ65 : ∀ (i : Nat) (s : WS), ((um (σ 66) u 6 < s.2 6 ∧ tlW (σ 66) u = some i) ∨ (s.2 6 = um (σ 66) u 6 ∧ tlW (σ 66) u = none)) → V X G shT (sR (cpN σ 66 69 127) (alR (σ 66) u s)) [some (.ref (ad G 65)), some (.int x), some (.int (um (σ 66) u 6)), some (.int (nI i)), none] [] 65 := by
      intro i s hs
      refine r_aload_n (pc := 65) B dX8_whup_65 rfl ?_
      refine r_iload_n (pc := 66) B dX8_whup_66 rfl ?_
      refine r_bipush (pc := 67) (x := 6) B dX8_whup_67 (by decide) ?_
      refine r_cVi2 (pc := 69) B KX8_59 (e_its l G _ (u := u) (i := 6) hu2 rfl hu8 (by decide)) rfl rfl (by decide) (Nat.le_of_ble_eq_true rfl) dX8_whup_69 ?_
      rw [show sR (cpN σ 66 69 127) (alR (σ 66) u s) 66 (53 + 8 * u + 6) = s.2 6 from alR_u (w := σ 66) (u := u) (s := s) (i := 6) (by omega)]
      refine r_iload_n (pc := 72) B dX8_whup_72 rfl ?_
      refine r_bz_icmp_le (pc := 73) B dX8_whup_73 dX8_whup_76 dX8_whup_77 dX8_whup_80 ?_
      refine r_istore_4 (pc := 81) B dX8_whup_81 (by decide) rfl ?_
      refine r_aload_n (pc := 83) B dX8_whup_83 rfl ?_
      refine r_getr (pc := 84) B FX8_19 rfl rfl dX8_whup_84 ?_
      refine r_aload_n (pc := 87) B dX8_whup_87 rfl ?_
      refine r_getr (pc := 88) B FX8_7 rfl rfl dX8_whup_88 ?_
      refine r_cSv2 (pc := 91) B KX8_140 (e_copyRow l G _ (a := 69) (c := 66) rfl rfl (by decide)) (by decide) (Nat.le_of_ble_eq_true rfl) dX8_whup_91 ?_
      refine r_iload (pc := 94) B dX8_whup_94 rfl ?_
      refine r_if_eq (pc := 96) B 103 dX8_whup_96 (by decide) (fun h96 => ?_) (fun h96 => ?_)
      · skip
        have hno := Classical.not_not.mp (bI_0.mp h96)
        have hn : tlW (σ 66) u = none := hs.elim (fun q => absurd hno (Int32.not_le.mpr q.1)) (fun q => q.2)
        refine r_aload_n (pc := 103) B dX8_whup_103 rfl ?_
        refine r_ldc (pc := 104) B q989 dX8_whup_104 ?_
        refine r_cVi1 (pc := 106) B KX8_39 (e_finds l G _ (j := 3) rfl (by decide)) rfl rfl (by decide) (Nat.le_of_ble_eq_true rfl) dX8_whup_106 ?_
        exact r_iret (pc := 109) B R dX8_whup_109 (Or.inr ⟨u, hu1, hu2, by first | exact Or.inl ⟨i, hy, rfl, ro_back σ hu8 s⟩ | exact Or.inr ⟨hn, rfl, _, ro_back σ hu8 s, rfl⟩⟩)
      · skip
        have hye := Int32.not_le.mp (bI_n.mp h96)
        have hy : tlW (σ 66) u = some i := hs.elim (fun q => q.2) (fun q => absurd hye (by rw [q.1]; exact Int32.lt_irrefl))
        refine r_iload_n (pc := 99) B dX8_whup_99 rfl ?_
        refine r_goto (pc := 100) B 109 dX8_whup_100 (by decide) ?_
        exact r_iret (pc := 109) B R dX8_whup_109 (Or.inr ⟨u, hu1, hu2, by first | exact Or.inl ⟨i, hy, rfl, ro_back σ hu8 s⟩ | exact Or.inr ⟨hn, rfl, _, ro_back σ hu8 s, rfl⟩⟩)
    refine r_iconst (pc := 34) (x := 0) B dX8_whup_34 (by decide) ?_
    refine r_istore_3 (pc := 35) B dX8_whup_35 (by decide) rfl ?_
    have hL36 : ∀ (p i : Nat) (s : WS), i + p = 200 → ((s.2 6 = um (σ 66) u 6 ∧ tlW (σ 66) u = (tlN (wF (σ 66)) (um (σ 66) u 6) p s).map (· + i)) ∨ (um (σ 66) u 6 < s.2 6 ∧ tlW (σ 66) u = some i)) → WR (alR (σ 66) u s) → s.1 = nI (t + i) → V X G shT (sR (cpN σ 66 69 127) (alR (σ 66) u s)) [some (.ref (ad G 65)), some (.int x), some (.int (um (σ 66) u 6)), some (.int (nI i)), none] [] 36 := by
      intro p
      induction p with
      | zero =>
        intro i s hi hc hws h1
        have ei : i = 200 := by omega
        subst ei
        refine r_iload_n (pc := 36) B dX8_whup_36 rfl ?_
        refine r_sipush (pc := 37) (x := 200) B dX8_whup_37 (by decide) ?_
        refine r_icmp_ge (pc := 40) B 65 dX8_whup_40 (by decide) (fun h40 => ?_) (fun h40 => ?_)
        · skip
          exact hJ65 200 s (hc.elim (fun q => Or.inr ⟨q.1, by rw [q.2]; rfl⟩) (fun q => Or.inl q))
        · skip
          exact absurd ((nI_leI (a := 200) (b := 200) (by omega) (by omega)).mpr (Nat.le_refl _)) h40
      | succ p ih =>
        intro i s hi hc hws h1
        refine r_iload_n (pc := 36) B dX8_whup_36 rfl ?_
        refine r_sipush (pc := 37) (x := 200) B dX8_whup_37 (by decide) ?_
        refine r_icmp_ge (pc := 40) B 65 dX8_whup_40 (by decide) (fun h40 => ?_) (fun h40 => ?_)
        · skip
          exact absurd ((nI_leI (a := 200) (b := i) (by omega) (by omega)).mp h40) (by omega)
        · skip
          refine r_aload_n (pc := 43) B dX8_whup_43 rfl ?_
          refine r_iload_n (pc := 44) B dX8_whup_44 rfl ?_
          refine r_bipush (pc := 45) (x := 6) B dX8_whup_45 (by decide) ?_
          refine r_cVi2 (pc := 47) B KX8_59 (e_its l G _ (u := u) (i := 6) hu2 rfl hu8 (by decide)) rfl rfl (by decide) (Nat.le_of_ble_eq_true rfl) dX8_whup_47 ?_
          rw [show sR (cpN σ 66 69 127) (alR (σ 66) u s) 66 (53 + 8 * u + 6) = s.2 6 from alR_u (w := σ 66) (u := u) (s := s) (i := 6) (by omega)]
          refine r_iload_n (pc := 50) B dX8_whup_50 rfl ?_
          refine r_icmp_ne (pc := 51) B 65 dX8_whup_51 (by decide) (fun h51 => ?_) (fun h51 => ?_)
          · skip
            exact hJ65 i s (hc.elim (fun q => absurd q.1 h51) (fun q => Or.inl q))
          · skip
            have hc2 := hc.elim id (fun q => absurd (by grind : s.2 6 = um (σ 66) u 6) (i32_ne q.1))
            refine r_aload_n (pc := 54) B dX8_whup_54 rfl ?_
            refine r_iload_n (pc := 55) B dX8_whup_55 rfl ?_
            refine r_cVv1 (pc := 56) B KX8_144 (e_goesAlone l G _ hu2 hu8 hws) rfl rfl (by decide) (Nat.le_of_ble_eq_true rfl) dX8_whup_56 ?_
            rw [sR_sR, sR_66, alT_al hu8 h1 (by omega)]
            refine r_iinc_3 (pc := 59) (y := _ + 1) B dX8_whup_59 rfl (by decide) rfl ?_
            refine r_goto (pc := 62) B 36 dX8_whup_62 (by decide) ?_
            rw [nI_1]
            refine ih (i + 1) (wF (σ 66) s) (by omega) ?_ (wF_WR hu8 hws) (by rw [wF_t h1 (by omega)]; congr 1)
            rcases step6 hu8 hws with q | q
            · refine Or.inl ⟨q.trans hc2.1, ?_⟩
              rw [hc2.2, tlN, if_pos (by rw [q, hc2.1]; exact Int32.le_refl _), Option.map_map]
              congr 1
              funext z
              simp only [Function.comp]
              omega
            · refine Or.inr ⟨by rw [← hc2.1]; exact q, ?_⟩
              rw [hc2.2, tlN, if_neg (by rw [← hc2.1]; exact Int32.not_le.mpr q)]
              simp only [Option.map_some, Option.some.injEq]
              omega
    have h0 := hL36 200 0 (σ 66 1, um (σ 66) u) (by omega) (Or.inl ⟨rfl, by simp⟩) (by rw [alR_0]; exact hW) ht1
    rw [al_be] at h0
    exact h0
  · skip
    refine r_aload_n (pc := 8) B dX8_whup_8 rfl ?_
    refine r_ldc (pc := 9) B q836 dX8_whup_9 ?_
    refine r_cVi1 (pc := 11) B KX8_39 (e_finds l G _ (j := 0) rfl (by decide)) rfl rfl (by decide) (Nat.le_of_ble_eq_true rfl) dX8_whup_11 ?_
    exact r_iret (pc := 14) B R dX8_whup_14 (Or.inl ⟨fun q => bI_0.mp h5 q, rfl, rfl⟩)
theorem hmR_rg (w : Nat → Int32) (u : Nat) : ∃ a, a ≤ 200 ∧ (hmR (hmW w u) = nI a ∨ hmR (hmW w u) < 0) := by
  by_cases h : (hmW w u).2.2 1 = 16
  · exact ⟨_, hm_le _ _ _, Or.inl (hmR_of h)⟩
  · exact ⟨0, by omega, Or.inr (Int32.not_le.mp (fun q => h ((hmR_ge (hm_le _ _ _)).mp q)))⟩
/-- the fewest so far, as the reference keeps it -/
def soS (p : Int32 × Int32) : Int32 := if p.1 < 0 then 201 else p.2
theorem so_iff {p : Int32 × Int32} {v : Int32} {a : Nat} (ha : a ≤ 200) (hv : v = nI a) : v < soS p ↔ (p.1 < 0 ∨ ¬ p.2 ≤ v) := by
  unfold soS
  split
  · rename_i h
    exact ⟨fun _ => Or.inl h, fun _ => by rw [hv]; exact (nI_ltI (b := 201) (by omega) (by decide)).mpr (by omega)⟩
  · rename_i h
    exact ⟨fun q => Or.inr (Int32.not_le.mpr q), fun q => q.elim (fun z => absurd z h) (fun z => Int32.not_le.mp z)⟩

set_option maxHeartbeats 4000000 in
set_option maxRecDepth 20000 in
theorem e_first (l : Launch) (G : GG) (σ : Sg) {N : Nat} (hN8 : N ≤ 8) (hN : σ 66 0 = nI N) (hW : WR (σ 66)) {t : Nat} (ht : t ≤ 99000) (ht1 : σ 66 1 = nI t) : Ct l G mX8_first 7 shT [.ref (ad G 65)] σ (fun r τ => ((fsF (σ 66) N).1 < 0 ∧ gW σ 3 r τ) ∨ (¬ (fsF (σ 66) N).1 < 0 ∧ r = some (.int (fsF (σ 66) N).1) ∧ ro σ τ)) := by
  refine ct_intro (by decide) (Nat.le_of_ble_eq_true rfl) (fun X B R => ?_)
  show V X G shT σ [some (.ref (ad G 65)), none, none, none, none, none] [] 0
  refine r_iconst (pc := 0) (x := (-1)) B dX8_first_0 (by decide) ?_
  refine r_istore_1 (pc := 1) B dX8_first_1 (by decide) rfl ?_
  refine r_sipush (pc := 2) (x := 201) B dX8_first_2 (by decide) ?_
  refine r_istore_2 (pc := 5) B dX8_first_5 (by decide) rfl ?_
  refine r_iconst (pc := 6) (x := 0) B dX8_first_6 (by decide) ?_
  refine r_istore_3 (pc := 7) B dX8_first_7 (by decide) rfl ?_
  have hL8 : ∀ (n i : Nat) (b f : Int32) (ρ : Sg) (tl tm : Option Value), i + n = N → ro σ ρ → b = (fsF (σ 66) i).1 → f = soS (fsF (σ 66) i) → V X G shT ρ [some (.ref (ad G 65)), some (.int b), some (.int f), some (.int (nI i)), tl, tm] [] 8 := by
    intro n
    induction n with
    | zero =>
      intro i b f ρ tl tm hi hw hb hf
      have ei : i = N := by omega
      subst ei
      have e6 : ρ 66 = σ 66 := hw.1 66 (by decide) (by decide)
      refine r_iload_n (pc := 8) B dX8_first_8 rfl ?_
      refine r_aload_n (pc := 9) B dX8_first_9 rfl ?_
      refine r_getr (pc := 10) B FX8_7 rfl rfl dX8_first_10 ?_
      refine r_iconst (pc := 13) (x := 0) B dX8_first_13 (by decide) ?_
      refine r_iald (pc := 14) B rfl (ix_of 0 rfl) dX8_first_14 ?_
      rw [e6, hN]
      refine r_icmp_ge (pc := 15) B 72 dX8_first_15 (by decide) (fun h15 => ?_) (fun h15 => ?_)
      · skip
        refine r_aload_n (pc := 72) B dX8_first_72 rfl ?_
        refine r_iload_n (pc := 73) B dX8_first_73 rfl ?_
        refine r_cV (pc := 74) (As := [.int _]) (C := yX8_orNone.cls) B KX8_160 (e_orNone l G _ _) (by decide) rfl rfl rfl (Nat.le_of_ble_eq_true rfl) dX8_first_74 (fun r τ hq => ?_)
        rcases hq with ⟨z, rfl, rfl⟩ | ⟨z, rfl, rfl⟩
        · exact r_iret (pc := 77) B R dX8_first_77 (Or.inl ⟨by rw [← hb]; exact z, rfl, _, hw, rfl⟩)
        · exact r_iret (pc := 77) B R dX8_first_77 (Or.inr ⟨by rw [← hb]; exact z, by rw [hb], hw⟩)
      · skip
        exact absurd ((nI_leI (by omega) (by omega)).mpr (Nat.le_refl _)) h15
    | succ n ih =>
      intro i b f ρ tl tm hi hw hb hf
      have e6 : ρ 66 = σ 66 := hw.1 66 (by decide) (by decide)
      refine r_iload_n (pc := 8) B dX8_first_8 rfl ?_
      refine r_aload_n (pc := 9) B dX8_first_9 rfl ?_
      refine r_getr (pc := 10) B FX8_7 rfl rfl dX8_first_10 ?_
      refine r_iconst (pc := 13) (x := 0) B dX8_first_13 (by decide) ?_
      refine r_iald (pc := 14) B rfl (ix_of 0 rfl) dX8_first_14 ?_
      rw [e6, hN]
      refine r_icmp_ge (pc := 15) B 72 dX8_first_15 (by decide) (fun h15 => ?_) (fun h15 => ?_)
      · skip
        exact absurd ((nI_leI (a := N) (b := i) (by omega) (by omega)).mp h15) (by omega)
      · skip
        refine r_aload_n (pc := 18) B dX8_first_18 rfl ?_
        refine r_iload_n (pc := 19) B dX8_first_19 rfl ?_
        refine r_cVpi1 (pc := 20) B KX8_157 (e_follows l G _ rfl (by omega) (by rw [e6]; exact hW) ht (by rw [e6]; exact ht1)) rfl rfl (by decide) (Nat.le_of_ble_eq_true rfl) dX8_first_20 (fun ρ1 h1 => ?_)
        have w1 : ro σ ρ1 := hw.tr h1.1
        rw [e6]
        obtain ⟨a, ha, hv⟩ := hmR_rg (σ 66) i
        have hs : fsF (σ 66) (i + 1) = if ¬ hmR (hmW (σ 66) i) < 0 ∧ ((fsF (σ 66) i).1 < 0 ∨ ¬ (fsF (σ 66) i).2 ≤ hmR (hmW (σ 66) i)) then (nI i, hmR (hmW (σ 66) i)) else fsF (σ 66) i := rfl
        refine r_istore_4 (pc := 23) B dX8_first_23 (by decide) rfl ?_
        have hJ41 : ∀ z : Int32, z = bI (¬ hmR (hmW (σ 66) i) < 0 ∧ ((fsF (σ 66) i).1 < 0 ∨ ¬ (fsF (σ 66) i).2 ≤ hmR (hmW (σ 66) i))) → V X G shT ρ1 [some (.ref (ad G 65)), some (.int b), some (.int f), some (.int (nI i)), some (.int (hmR (hmW (σ 66) i))), tm] [.int z] 41 := by
          intro z hz
          refine r_istore_5 (pc := 41) B dX8_first_41 (by decide) rfl ?_
          refine r_iload (pc := 43) B dX8_first_43 rfl ?_
          refine r_if_eq (pc := 45) B 52 dX8_first_45 (by decide) (fun h45 => ?_) (fun h45 => ?_)
          · skip
            have hd := hs.trans (if_neg (bI_0.mp (by rw [← hz]; exact h45)))
            refine r_iload_n (pc := 52) B dX8_first_52 rfl ?_
            refine r_istore_1 (pc := 53) B dX8_first_53 (by decide) rfl ?_
            refine r_iload (pc := 54) B dX8_first_54 rfl ?_
            refine r_if_eq (pc := 56) B 64 dX8_first_56 (by decide) (fun h56 => ?_) (fun h56 => ?_)
            · skip
              have hc : ¬ z = 0 → False := fun q => q h56
              refine r_iload_n (pc := 64) B dX8_first_64 rfl ?_
              refine r_istore_2 (pc := 65) B dX8_first_65 (by decide) rfl ?_
              refine r_iinc_3 (pc := 66) (y := _ + 1) B dX8_first_66 rfl (by decide) rfl ?_
              refine r_goto (pc := 69) B 8 dX8_first_69 (by decide) ?_
              rw [nI_1]
              first | exact absurd h45 h56 | exact absurd h56 h45 | exact ih (i + 1) _ _ ρ1 _ _ (by omega) w1 (by rw [hd]; exact hb) (by rw [hd]; exact hf) | exact ih (i + 1) _ _ ρ1 _ _ (by omega) w1 (by rw [hd]) (by rw [hd, soS, if_neg (nI_pos (by omega))])
            · skip
              have hc : z = 0 → False := fun q => h56 q
              refine r_iload (pc := 59) B dX8_first_59 rfl ?_
              refine r_goto (pc := 61) B 65 dX8_first_61 (by decide) ?_
              refine r_istore_2 (pc := 65) B dX8_first_65 (by decide) rfl ?_
              refine r_iinc_3 (pc := 66) (y := _ + 1) B dX8_first_66 rfl (by decide) rfl ?_
              refine r_goto (pc := 69) B 8 dX8_first_69 (by decide) ?_
              rw [nI_1]
              first | exact absurd h45 h56 | exact absurd h56 h45 | exact ih (i + 1) _ _ ρ1 _ _ (by omega) w1 (by rw [hd]; exact hb) (by rw [hd]; exact hf) | exact ih (i + 1) _ _ ρ1 _ _ (by omega) w1 (by rw [hd]) (by rw [hd, soS, if_neg (nI_pos (by omega))])
          · skip
            have hd := hs.trans (if_pos (bI_n.mp (by rw [← hz]; exact h45)))
            refine r_iload_n (pc := 48) B dX8_first_48 rfl ?_
            refine r_goto (pc := 49) B 53 dX8_first_49 (by decide) ?_
            refine r_istore_1 (pc := 53) B dX8_first_53 (by decide) rfl ?_
            refine r_iload (pc := 54) B dX8_first_54 rfl ?_
            refine r_if_eq (pc := 56) B 64 dX8_first_56 (by decide) (fun h56 => ?_) (fun h56 => ?_)
            · skip
              have hc : ¬ z = 0 → False := fun q => q h56
              refine r_iload_n (pc := 64) B dX8_first_64 rfl ?_
              refine r_istore_2 (pc := 65) B dX8_first_65 (by decide) rfl ?_
              refine r_iinc_3 (pc := 66) (y := _ + 1) B dX8_first_66 rfl (by decide) rfl ?_
              refine r_goto (pc := 69) B 8 dX8_first_69 (by decide) ?_
              rw [nI_1]
              first | exact absurd h45 h56 | exact absurd h56 h45 | exact ih (i + 1) _ _ ρ1 _ _ (by omega) w1 (by rw [hd]; exact hb) (by rw [hd]; exact hf) | exact ih (i + 1) _ _ ρ1 _ _ (by omega) w1 (by rw [hd]) (by rw [hd, soS, if_neg (nI_pos (by omega))])
            · skip
              have hc : z = 0 → False := fun q => h56 q
              refine r_iload (pc := 59) B dX8_first_59 rfl ?_
              refine r_goto (pc := 61) B 65 dX8_first_61 (by decide) ?_
              refine r_istore_2 (pc := 65) B dX8_first_65 (by decide) rfl ?_
              refine r_iinc_3 (pc := 66) (y := _ + 1) B dX8_first_66 rfl (by decide) rfl ?_
              refine r_goto (pc := 69) B 8 dX8_first_69 (by decide) ?_
              rw [nI_1]
              first | exact absurd h45 h56 | exact absurd h56 h45 | exact ih (i + 1) _ _ ρ1 _ _ (by omega) w1 (by rw [hd]; exact hb) (by rw [hd]; exact hf) | exact ih (i + 1) _ _ ρ1 _ _ (by omega) w1 (by rw [hd]) (by rw [hd, soS, if_neg (nI_pos (by omega))])
        refine r_iload (pc := 25) B dX8_first_25 rfl ?_
        refine r_if_lt (pc := 27) B 40 dX8_first_27 (by decide) (fun h27 => ?_) (fun h27 => ?_)
        · skip
          refine r_iconst (pc := 40) (x := 0) B dX8_first_40 (by decide) ?_
          exact hJ41 _ (by first | exact bI_f (fun q => q.1 h27) | exact bI_cg ⟨fun q => ⟨h27, (so_iff ha hva).mp (by rw [← hf]; exact Int32.not_le.mp q)⟩, fun q => Int32.not_le.mpr (by rw [hf]; exact (so_iff ha hva).mpr q.2)⟩)
        · skip
          have hva : hmR (hmW (σ 66) i) = nI a := hv.elim id (fun q => absurd q h27)
          refine r_iload (pc := 30) B dX8_first_30 rfl ?_
          refine r_iload_n (pc := 32) B dX8_first_32 rfl ?_
          refine r_bz_icmp_ge (pc := 33) B dX8_first_33 dX8_first_36 dX8_first_37 dX8_first_40 ?_
          exact hJ41 _ (by first | exact bI_f (fun q => q.1 h27) | exact bI_cg ⟨fun q => ⟨h27, (so_iff ha hva).mp (by rw [← hf]; exact Int32.not_le.mp q)⟩, fun q => Int32.not_le.mpr (by rw [hf]; exact (so_iff ha hva).mpr q.2)⟩)
  exact hL8 N 0 (-1) 201 σ _ _ (by omega) (ro.rf σ) rfl rfl

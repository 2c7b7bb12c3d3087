theorem hmW_neg {w : Nat → Int32} {u : Nat} (h : hmR (hmW w u) < 0) : ¬ (hmW w u).2.2 1 = 16 := fun q => absurd ((hmR_ge (hm_le _ _ _)).mpr q) (Int32.not_le.mpr h)
theorem hmW_pos {w : Nat → Int32} {u : Nat} (h : ¬ hmR (hmW w u) < 0) : (hmW w u).2.2 1 = 16 := (hmR_ge (hm_le _ _ _)).mp (Int32.not_lt.mp h)
theorem hmR_of {q : Nat × WS} (h : q.2.2 1 = 16) : hmR q = nI q.1 := by unfold hmR; rw [if_pos h]

set_option maxHeartbeats 4000000 in
set_option maxRecDepth 20000 in
theorem e_home (l : Launch) (G : GG) (σ : Sg) {N : Nat} (hN8 : N ≤ 8) (hN : σ 66 0 = nI N) (hW : WR (σ 66)) {t : Nat} (ht : t ≤ 99000) (ht1 : σ 66 1 = nI t) (x : Int32) : Ct l G mX8_home 7 shT [.ref (ad G 65), .int x] σ (fun r τ => (¬ umR σ x ∧ gQ σ 0 r τ) ∨ ∃ u, u < N ∧ x = nI u ∧ (((hmW (σ 66) u).2.2 1 = 16 ∧ r = some (.int (nI (hmW (σ 66) u).1)) ∧ ro σ τ) ∨ (¬ (hmW (σ 66) u).2.2 1 = 16 ∧ gW σ 3 r τ))) := by
  refine ct_intro (by decide) (Nat.le_of_ble_eq_true rfl) (fun X B R => ?_)
  show V X G shT σ [some (.ref (ad G 65)), some (.int x)] [] 0
  refine r_aload_n (pc := 0) B dX8_home_0 rfl ?_
  refine r_iload_n (pc := 1) B dX8_home_1 rfl ?_
  refine r_cVi1 (pc := 2) B KX8_89 (e_isUmbrella l G _ _) rfl rfl (by decide) (Nat.le_of_ble_eq_true rfl) dX8_home_2 ?_
  refine r_if_eq (pc := 5) B 20 dX8_home_5 (by decide) (fun h5 => ?_) (fun h5 => ?_)
  · skip
    refine r_aload_n (pc := 20) B dX8_home_20 rfl ?_
    refine r_ldc (pc := 21) B q836 dX8_home_21 ?_
    refine r_cVi1 (pc := 23) B KX8_39 (e_finds l G _ (j := 0) rfl (by decide)) rfl rfl (by decide) (Nat.le_of_ble_eq_true rfl) dX8_home_23 ?_
    exact r_iret (pc := 26) B R dX8_home_26 (Or.inl ⟨fun q => bI_0.mp h5 q, rfl, rfl⟩)
  · skip
    obtain ⟨u, hu1, hu2⟩ := um_nR hN8 hN (bI_n.mp h5)
    refine r_aload_n (pc := 8) B dX8_home_8 rfl ?_
    refine r_aload_n (pc := 9) B dX8_home_9 rfl ?_
    refine r_iload_n (pc := 10) B dX8_home_10 rfl ?_
    refine r_cVpi1 (pc := 11) B KX8_157 (e_follows l G _ hu2 (by omega) hW ht ht1) rfl rfl (by decide) (Nat.le_of_ble_eq_true rfl) dX8_home_11 (fun ρ1 h1 => ?_)
    refine r_cV (pc := 14) (As := [.int _]) (C := yX8_orNone.cls) B KX8_160 (e_orNone l G _ _) (by decide) rfl rfl rfl (Nat.le_of_ble_eq_true rfl) dX8_home_14 (fun r τ hq => ?_)
    rcases hq with ⟨z, rfl, rfl⟩ | ⟨z, rfl, rfl⟩
    · refine r_goto (pc := 17) B 26 dX8_home_17 (by decide) ?_
      exact r_iret (pc := 26) B R dX8_home_26 (Or.inr ⟨u, hu1, hu2, Or.inr ⟨hmW_neg z, rfl, ρ1, h1.1, rfl⟩⟩)
    · refine r_goto (pc := 17) B 26 dX8_home_17 (by decide) ?_
      exact r_iret (pc := 26) B R dX8_home_26 (Or.inr ⟨u, hu1, hu2, Or.inl ⟨hmW_pos z, by rw [hmR_of (hmW_pos z)], h1.1⟩⟩)
set_option maxHeartbeats 4000000 in
set_option maxRecDepth 20000 in
theorem e_homeWith (l : Launch) (G : GG) (σ : Sg) {N : Nat} (hN8 : N ≤ 8) (hN : σ 66 0 = nI N) (hW : WR (σ 66)) {t : Nat} (ht : t ≤ 99000) (ht1 : σ 66 1 = nI t) (x a : Int32) : Ct l G mX8_homeWith 7 shT [.ref (ad G 65), .int x, .int a] σ (fun r τ => (¬ (umR σ x ∧ (a = 7 ∨ a = 6 ∨ a = 4)) ∧ gQ σ 0 r τ) ∨ ∃ u k, u < N ∧ x = nI u ∧ (k = 7 ∨ k = 6 ∨ k = 4) ∧ a = nI k ∧ (((hmW (σ 66) u).2.2 1 = 16 ∧ r = some (.int ((hmW (σ 66) u).2.2 k)) ∧ ro σ τ) ∨ (¬ (hmW (σ 66) u).2.2 1 = 16 ∧ gW σ 3 r τ))) := by
  have ha : (¬ a < 6 ∧ ¬ 7 < a) ↔ (a = 7 ∨ a = 6) := by
    constructor
    · intro q
      obtain ⟨m, hm, rfl⟩ := nI_of (x := a) (fun z => q.1 (Int32.lt_trans z (by decide)))
      have h1 : ¬ m < 6 := fun z => q.1 ((nI_ltI (b := 6) hm (by decide)).mpr z)
      have h2 : ¬ 7 < m := fun z => q.2 ((nI_ltI (a := 7) (by decide) hm).mpr z)
      rcases (show m = 7 ∨ m = 6 by omega) with rfl | rfl
      · exact Or.inl rfl
      · exact Or.inr rfl
    · rintro (rfl | rfl) <;> decide
  refine ct_intro (by decide) (Nat.le_of_ble_eq_true rfl) (fun X B R => ?_)
  show V X G shT σ [some (.ref (ad G 65)), some (.int x), some (.int a)] [] 0
  refine r_aload_n (pc := 0) B dX8_homeWith_0 rfl ?_
  refine r_iload_n (pc := 1) B dX8_homeWith_1 rfl ?_
  refine r_cVi1 (pc := 2) B KX8_89 (e_isUmbrella l G _ _) rfl rfl (by decide) (Nat.le_of_ble_eq_true rfl) dX8_homeWith_2 ?_
  refine r_if_eq (pc := 5) B 27 dX8_homeWith_5 (by decide) (fun h5 => ?_) (fun h5 => ?_)
  · skip
    refine r_aload_n (pc := 27) B dX8_homeWith_27 rfl ?_
    refine r_ldc (pc := 28) B q836 dX8_homeWith_28 ?_
    refine r_cVi1 (pc := 30) B KX8_39 (e_finds l G _ (j := 0) rfl (by decide)) rfl rfl (by decide) (Nat.le_of_ble_eq_true rfl) dX8_homeWith_30 ?_
    exact r_iret (pc := 33) B R dX8_homeWith_33 (Or.inl ⟨by first | exact fun q => bI_0.mp h5 q.1 | exact fun q => q.2.elim (fun z => bI_0.mp h24 (ha.mpr (Or.inl z))) (fun z => z.elim (fun z => bI_0.mp h24 (ha.mpr (Or.inr z))) h10), rfl, rfl⟩)
  · skip
    obtain ⟨u, hu1, hu2⟩ := um_nR hN8 hN (bI_n.mp h5)
    refine r_iload_n (pc := 8) B dX8_homeWith_8 rfl ?_
    refine r_iconst (pc := 9) (x := 4) B dX8_homeWith_9 (by decide) ?_
    refine r_icmp_eq (pc := 10) B 34 dX8_homeWith_10 (by decide) (fun h10 => ?_) (fun h10 => ?_)
    · skip
      obtain ⟨k, hk3, hk4⟩ : ∃ k : Nat, (k = 7 ∨ k = 6 ∨ k = 4) ∧ a = nI k := by first | exact ⟨4, Or.inr (Or.inr rfl), h10⟩ | exact hk.elim (fun z => ⟨7, Or.inl rfl, z⟩) (fun z => ⟨6, Or.inr (Or.inl rfl), z⟩)
      refine r_aload_n (pc := 34) B dX8_homeWith_34 rfl ?_
      refine r_iload_n (pc := 35) B dX8_homeWith_35 rfl ?_
      refine r_cVpi1 (pc := 36) B KX8_157 (e_follows l G _ hu2 (by omega) hW ht ht1) rfl rfl (by decide) (Nat.le_of_ble_eq_true rfl) dX8_homeWith_36 (fun ρ1 h1 => ?_)
      refine r_if_ge (pc := 39) B 49 dX8_homeWith_39 (by decide) (fun h39 => ?_) (fun h39 => ?_)
      · skip
        refine r_iload_n (pc := 49) B dX8_homeWith_49 rfl ?_
        refine r_bipush (pc := 50) (x := 7) B dX8_homeWith_50 (by decide) ?_
        refine r_icmp_ne (pc := 52) B 62 dX8_homeWith_52 (by decide) (fun h52 => ?_) (fun h52 => ?_)
        · skip
          refine r_iload_n (pc := 62) B dX8_homeWith_62 rfl ?_
          refine r_bipush (pc := 63) (x := 6) B dX8_homeWith_63 (by decide) ?_
          refine r_icmp_ne (pc := 65) B 75 dX8_homeWith_65 (by decide) (fun h65 => ?_) (fun h65 => ?_)
          · skip
            refine r_aload_n (pc := 75) B dX8_homeWith_75 rfl ?_
            refine r_geti (pc := 76) B FX8_154 rfl rfl dX8_homeWith_76 ?_
            exact r_iret (pc := 79) B R dX8_homeWith_79 (Or.inr ⟨u, k, hu1, hu2, hk3, hk4, Or.inl ⟨hmW_pos (Int32.not_lt.mpr h39), by rcases hk3 with rfl | rfl | rfl <;> first | (rw [h1.2.1]; done) | (rw [h1.2.2.1]; done) | (rw [h1.2.2.2.1]; done) | exact absurd hk4 h50 | (exfalso; rw [hk4] at h52; revert h52; decide) | (exfalso; rw [hk4] at h65; revert h65; decide), h1.1⟩⟩)
          · skip
            refine r_aload_n (pc := 68) B dX8_homeWith_68 rfl ?_
            refine r_geti (pc := 69) B FX8_151 rfl rfl dX8_homeWith_69 ?_
            refine r_goto (pc := 72) B 79 dX8_homeWith_72 (by decide) ?_
            exact r_iret (pc := 79) B R dX8_homeWith_79 (Or.inr ⟨u, k, hu1, hu2, hk3, hk4, Or.inl ⟨hmW_pos (Int32.not_lt.mpr h39), by rcases hk3 with rfl | rfl | rfl <;> first | (rw [h1.2.1]; done) | (rw [h1.2.2.1]; done) | (rw [h1.2.2.2.1]; done) | exact absurd hk4 h50 | (exfalso; rw [hk4] at h52; revert h52; decide) | (exfalso; rw [hk4] at h65; revert h65; decide), h1.1⟩⟩)
        · skip
          refine r_aload_n (pc := 55) B dX8_homeWith_55 rfl ?_
          refine r_geti (pc := 56) B FX8_147 rfl rfl dX8_homeWith_56 ?_
          refine r_goto (pc := 59) B 79 dX8_homeWith_59 (by decide) ?_
          exact r_iret (pc := 79) B R dX8_homeWith_79 (Or.inr ⟨u, k, hu1, hu2, hk3, hk4, Or.inl ⟨hmW_pos (Int32.not_lt.mpr h39), by rcases hk3 with rfl | rfl | rfl <;> first | (rw [h1.2.1]; done) | (rw [h1.2.2.1]; done) | (rw [h1.2.2.2.1]; done) | exact absurd hk4 h50 | (exfalso; rw [hk4] at h52; revert h52; decide) | (exfalso; rw [hk4] at h65; revert h65; decide), h1.1⟩⟩)
      · skip
        refine r_aload_n (pc := 42) B dX8_homeWith_42 rfl ?_
        refine r_ldc (pc := 43) B q989 dX8_homeWith_43 ?_
        refine r_cVi1 (pc := 45) B KX8_39 (e_finds l G _ (j := 3) rfl (by decide)) rfl rfl (by decide) (Nat.le_of_ble_eq_true rfl) dX8_homeWith_45 ?_
        exact r_iret (pc := 48) B R dX8_homeWith_48 (Or.inr ⟨u, k, hu1, hu2, hk3, hk4, Or.inr ⟨hmW_neg (Int32.not_le.mp h39), rfl, ρ1, h1.1, rfl⟩⟩)
    · skip
      refine r_iload_n (pc := 13) B dX8_homeWith_13 rfl ?_
      refine r_i2l (pc := 14) B dX8_homeWith_14 ?_
      refine r_ldc2_w (pc := 15) B q870 dX8_homeWith_15 ?_
      refine r_ldc2_w (pc := 18) B q910 dX8_homeWith_18 ?_
      refine r_cSi3 (pc := 21) B KX8_49 (e_isIn l G _ _ (v := a) (a := 6) (b := 7) rfl rfl rfl) (by decide) (Nat.le_of_ble_eq_true rfl) dX8_homeWith_21 ?_
      refine r_if_ne (pc := 24) B 34 dX8_homeWith_24 (by decide) (fun h24 => ?_) (fun h24 => ?_)
      · skip
        have hk := ha.mp (bI_n.mp h24)
        obtain ⟨k, hk3, hk4⟩ : ∃ k : Nat, (k = 7 ∨ k = 6 ∨ k = 4) ∧ a = nI k := by first | exact ⟨4, Or.inr (Or.inr rfl), h10⟩ | exact hk.elim (fun z => ⟨7, Or.inl rfl, z⟩) (fun z => ⟨6, Or.inr (Or.inl rfl), z⟩)
        refine r_aload_n (pc := 34) B dX8_homeWith_34 rfl ?_
        refine r_iload_n (pc := 35) B dX8_homeWith_35 rfl ?_
        refine r_cVpi1 (pc := 36) B KX8_157 (e_follows l G _ hu2 (by omega) hW ht ht1) rfl rfl (by decide) (Nat.le_of_ble_eq_true rfl) dX8_homeWith_36 (fun ρ1 h1 => ?_)
        refine r_if_ge (pc := 39) B 49 dX8_homeWith_39 (by decide) (fun h39 => ?_) (fun h39 => ?_)
        · skip
          refine r_iload_n (pc := 49) B dX8_homeWith_49 rfl ?_
          refine r_bipush (pc := 50) (x := 7) B dX8_homeWith_50 (by decide) ?_
          refine r_icmp_ne (pc := 52) B 62 dX8_homeWith_52 (by decide) (fun h52 => ?_) (fun h52 => ?_)
          · skip
            refine r_iload_n (pc := 62) B dX8_homeWith_62 rfl ?_
            refine r_bipush (pc := 63) (x := 6) B dX8_homeWith_63 (by decide) ?_
            refine r_icmp_ne (pc := 65) B 75 dX8_homeWith_65 (by decide) (fun h65 => ?_) (fun h65 => ?_)
            · skip
              refine r_aload_n (pc := 75) B dX8_homeWith_75 rfl ?_
              refine r_geti (pc := 76) B FX8_154 rfl rfl dX8_homeWith_76 ?_
              exact r_iret (pc := 79) B R dX8_homeWith_79 (Or.inr ⟨u, k, hu1, hu2, hk3, hk4, Or.inl ⟨hmW_pos (Int32.not_lt.mpr h39), by rcases hk3 with rfl | rfl | rfl <;> first | (rw [h1.2.1]; done) | (rw [h1.2.2.1]; done) | (rw [h1.2.2.2.1]; done) | exact absurd hk4 h50 | (exfalso; rw [hk4] at h52; revert h52; decide) | (exfalso; rw [hk4] at h65; revert h65; decide), h1.1⟩⟩)
            · skip
              refine r_aload_n (pc := 68) B dX8_homeWith_68 rfl ?_
              refine r_geti (pc := 69) B FX8_151 rfl rfl dX8_homeWith_69 ?_
              refine r_goto (pc := 72) B 79 dX8_homeWith_72 (by decide) ?_
              exact r_iret (pc := 79) B R dX8_homeWith_79 (Or.inr ⟨u, k, hu1, hu2, hk3, hk4, Or.inl ⟨hmW_pos (Int32.not_lt.mpr h39), by rcases hk3 with rfl | rfl | rfl <;> first | (rw [h1.2.1]; done) | (rw [h1.2.2.1]; done) | (rw [h1.2.2.2.1]; done) | exact absurd hk4 h50 | (exfalso; rw [hk4] at h52; revert h52; decide) | (exfalso; rw [hk4] at h65; revert h65; decide), h1.1⟩⟩)
          · skip
            refine r_aload_n (pc := 55) B dX8_homeWith_55 rfl ?_
            refine r_geti (pc := 56) B FX8_147 rfl rfl dX8_homeWith_56 ?_
            refine r_goto (pc := 59) B 79 dX8_homeWith_59 (by decide) ?_
            exact r_iret (pc := 79) B R dX8_homeWith_79 (Or.inr ⟨u, k, hu1, hu2, hk3, hk4, Or.inl ⟨hmW_pos (Int32.not_lt.mpr h39), by rcases hk3 with rfl | rfl | rfl <;> first | (rw [h1.2.1]; done) | (rw [h1.2.2.1]; done) | (rw [h1.2.2.2.1]; done) | exact absurd hk4 h50 | (exfalso; rw [hk4] at h52; revert h52; decide) | (exfalso; rw [hk4] at h65; revert h65; decide), h1.1⟩⟩)
        · skip
          refine r_aload_n (pc := 42) B dX8_homeWith_42 rfl ?_
          refine r_ldc (pc := 43) B q989 dX8_homeWith_43 ?_
          refine r_cVi1 (pc := 45) B KX8_39 (e_finds l G _ (j := 3) rfl (by decide)) rfl rfl (by decide) (Nat.le_of_ble_eq_true rfl) dX8_homeWith_45 ?_
          exact r_iret (pc := 48) B R dX8_homeWith_48 (Or.inr ⟨u, k, hu1, hu2, hk3, hk4, Or.inr ⟨hmW_neg (Int32.not_le.mp h39), rfl, ρ1, h1.1, rfl⟩⟩)
      · skip
        refine r_aload_n (pc := 27) B dX8_homeWith_27 rfl ?_
        refine r_ldc (pc := 28) B q836 dX8_homeWith_28 ?_
        refine r_cVi1 (pc := 30) B KX8_39 (e_finds l G _ (j := 0) rfl (by decide)) rfl rfl (by decide) (Nat.le_of_ble_eq_true rfl) dX8_homeWith_30 ?_
        exact r_iret (pc := 33) B R dX8_homeWith_33 (Or.inl ⟨by first | exact fun q => bI_0.mp h5 q.1 | exact fun q => q.2.elim (fun z => bI_0.mp h24 (ha.mpr (Or.inl z))) (fun z => z.elim (fun z => bI_0.mp h24 (ha.mpr (Or.inr z))) h10), rfl, rfl⟩)

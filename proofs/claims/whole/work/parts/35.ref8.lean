/-! roofFor, waitFor, gustFor, ribsFor -/
theorem WR_r {w : Nat → Int32} (hW : WR w) {n : Nat} (hn : n < 16) {v : Int32} (hv : withinP v 1) : WR (upd w (37 + n) v) := by
  refine ⟨?_, ?_, fun k' hk' => ⟨?_, ?_, ?_⟩, fun u' i' hu' hi' => ?_⟩
  · rw [upd, if_neg (by omega)]; exact hW.1
  · rw [upd, if_neg (by omega)]; exact hW.2.1
  · rw [upd, if_neg (by omega)]; exact (hW.2.2.1 k' hk').1
  · rw [upd, if_neg (by omega)]; exact (hW.2.2.1 k' hk').2.1
  · unfold upd
    split
    · exact hv
    · exact (hW.2.2.1 k' hk').2.2
  · rw [upd, if_neg (by omega)]; exact hW.2.2.2 u' i' hu' hi'
theorem WR_g {w : Nat → Int32} (hW : WR w) {v : Int32} (hv : withinP v 99) : WR (upd w 4 v) := by
  refine ⟨?_, ?_, fun k' hk' => ?_, fun u' i' hu' hi' => ?_⟩
  · rw [upd, if_neg (by omega)]; exact hW.1
  · rw [upd, if_pos rfl]; exact hv
  · rw [upd, if_neg (by omega), upd, if_neg (by omega), upd, if_neg (by omega)]; exact hW.2.2.1 k' hk'
  · rw [upd, if_neg (by omega)]; exact hW.2.2.2 u' i' hu' hi'

set_option maxHeartbeats 4000000 in
set_option maxRecDepth 20000 in
theorem e_roofFor (l : Launch) (G : GG) (σ : Sg) {N : Nat} (hN8 : N ≤ 8) (hN : σ 66 0 = nI N) (hW : WR (σ 66)) {t : Nat} (ht : t ≤ 99000) (ht1 : σ 66 1 = nI t) (x : Int32) : Ct l G mX8_roofFor 8 shT [.ref (ad G 65), .int x] σ (drR σ N 16 (opR (σ 66)) x) := by
  refine ct_intro (by decide) (Nat.le_of_ble_eq_true rfl) (fun X B R => ?_)
  show V X G shT σ [some (.ref (ad G 65)), some (.int x), none] [] 0
  refine r_aload_n (pc := 0) B dX8_roofFor_0 rfl ?_
  refine r_iload_n (pc := 1) B dX8_roofFor_1 rfl ?_
  refine r_cVi1 (pc := 2) B KX8_89 (e_isUmbrella l G _ _) rfl rfl (by decide) (Nat.le_of_ble_eq_true rfl) dX8_roofFor_2 ?_
  refine r_if_ne (pc := 5) B 15 dX8_roofFor_5 (by decide) (fun h5 => ?_) (fun h5 => ?_)
  · skip
    obtain ⟨u, hu1, hu2⟩ := um_nR hN8 hN (bI_n.mp h5)
    have hu8 : u < 8 := by omega
    refine r_aload_n (pc := 15) B dX8_roofFor_15 rfl ?_
    refine r_cVv0 (pc := 16) B KX8_170 (e_begins l G _) rfl rfl (by decide) (Nat.le_of_ble_eq_true rfl) dX8_roofFor_16 ?_
    refine r_iconst (pc := 19) (x := 0) B dX8_roofFor_19 (by decide) ?_
    refine r_istore_2 (pc := 20) B dX8_roofFor_20 (by decide) rfl ?_
    have hL21 : ∀ (n i : Nat) (ρ : Sg) (z : Int32), i + n = 16 → roW σ ρ (σ 66) → ρ 65 14 = (drF (fun n => dH (opR (σ 66) u n)) i).1 → ρ 65 15 = drD (drF (fun n => dH (opR (σ 66) u n)) i) → V X G shT ρ [some (.ref (ad G 65)), some (.int x), some (.int (nI i))] [] 21 := by
      intro n
      induction n with
      | zero =>
        intro i ρ z hi hw h14 h15
        have ei : i = 16 := by omega
        subst ei
        refine r_iload_n (pc := 21) B dX8_roofFor_21 rfl ?_
        refine r_bipush (pc := 22) (x := 16) B dX8_roofFor_22 (by decide) ?_
        refine r_icmp_ge (pc := 24) B 71 dX8_roofFor_24 (by decide) (fun h24 => ?_) (fun h24 => ?_)
        · skip
          refine r_aload_n (pc := 71) B dX8_roofFor_71 rfl ?_
          refine r_aload_n (pc := 72) B dX8_roofFor_72 rfl ?_
          refine r_geti (pc := 73) B FX8_163 rfl rfl dX8_roofFor_73 ?_
          rw [h14]
          refine r_cV (pc := 76) (As := [.int _]) (C := yX8_orNone.cls) B KX8_160 (e_orNone l G _ _) (by decide) rfl rfl rfl (Nat.le_of_ble_eq_true rfl) dX8_roofFor_76 (fun r τ hq => ?_)
          rcases hq with ⟨z_1, rfl, rfl⟩ | ⟨z_1, rfl, rfl⟩
          · exact r_iret (pc := 79) B R dX8_roofFor_79 (Or.inr ⟨u, hu1, hu2, Or.inl ⟨z_1, rfl, _, hw.ro, rfl⟩⟩)
          · exact r_iret (pc := 79) B R dX8_roofFor_79 (Or.inr ⟨u, hu1, hu2, Or.inr ⟨z_1, rfl, hw.ro⟩⟩)
        · skip
          exact absurd ((nI_leI (a := 16) (b := 16) (by omega) (by omega)).mpr (Nat.le_refl _)) h24
      | succ n ih =>
        intro i ρ z hi hw h14 h15
        refine r_iload_n (pc := 21) B dX8_roofFor_21 rfl ?_
        refine r_bipush (pc := 22) (x := 16) B dX8_roofFor_22 (by decide) ?_
        refine r_icmp_ge (pc := 24) B 71 dX8_roofFor_24 (by decide) (fun h24 => ?_) (fun h24 => ?_)
        · skip
          exact absurd ((nI_leI (a := 16) (b := i) (by omega) (by omega)).mp h24) (by omega)
        · skip
          refine r_aload_n (pc := 27) B dX8_roofFor_27 rfl ?_
          refine r_getr (pc := 28) B FX8_7 rfl rfl dX8_roofFor_28 ?_
          refine r_bipush (pc := 31) (x := 37) B dX8_roofFor_31 (by decide) ?_
          refine r_iload_n (pc := 33) B dX8_roofFor_33 rfl ?_
          refine r_iadd (pc := 34) B dX8_roofFor_34 ?_
          refine r_iald (pc := 35) B rfl (ix_eq (pl_nI (n := 37) rfl) (by omega) (by decide)) dX8_roofFor_35 ?_
          rw [hw.2.2]
          refine r_if_ne (pc := 36) B 65 dX8_roofFor_36 (by decide) (fun h36 => ?_) (fun h36 => ?_)
          · skip
            have hno : dH (opR (σ 66) u i) = none := dH_R1 ((wi_01 (hW.2.2.1 i (by omega)).2.2).elim (fun q => absurd q h36) id)
            refine r_iinc_2 (pc := 65) (y := _ + 1) B dX8_roofFor_65 rfl (by decide) rfl ?_
            refine r_goto (pc := 68) B 21 dX8_roofFor_68 (by decide) ?_
            rw [nI_1]
            first | (have qq := hno; exact ih (i + 1) ρ 0 (by omega) hw (by rw [show drF (fun n => dH (opR (σ 66) u n)) (i + 1) = drS (drF (fun n => dH (opR (σ 66) u n)) i) i (dH (opR (σ 66) u i)) from rfl, hno]; exact h14) (by rw [show drF (fun n => dH (opR (σ 66) u n)) (i + 1) = drS (drF (fun n => dH (opR (σ 66) u n)) i) i (dH (opR (σ 66) u i)) from rfl, hno]; exact h15)) | exact ih (i + 1) (st2 ρ1 66 (37 + i) 0) 0 (by omega) hw2 (by rw [show drF (fun n => dH (opR (σ 66) u n)) (i + 1) = drS (drF (fun n => dH (opR (σ 66) u n)) i) i (dH (opR (σ 66) u i)) from rfl, ← he, st2_cl _ _ _ _ (by decide)]; exact h1.2.1) (by rw [show drF (fun n => dH (opR (σ 66) u n)) (i + 1) = drS (drF (fun n => dH (opR (σ 66) u n)) i) i (dH (opR (σ 66) u i)) from rfl, ← he, st2_cl _ _ _ _ (by decide)]; exact h1.2.2)
          · skip
            have hz0 : σ 66 (37 + i) = 0 := by grind
            have he := dH_R (u := u) hz0 (by omega)
            refine r_aload_n (pc := 39) B dX8_roofFor_39 rfl ?_
            refine r_getr (pc := 40) B FX8_7 rfl rfl dX8_roofFor_40 ?_
            refine r_bipush (pc := 43) (x := 37) B dX8_roofFor_43 (by decide) ?_
            refine r_iload_n (pc := 45) B dX8_roofFor_45 rfl ?_
            refine r_iadd (pc := 46) B dX8_roofFor_46 ?_
            refine r_iconst (pc := 47) (x := 1) B dX8_roofFor_47 (by decide) ?_
            refine r_iast (pc := 48) B rfl (ix_eq (pl_nI (n := 37) rfl) (by omega) (by decide)) dX8_roofFor_48 ?_
            have hw0 := hw.st (37 + i) 1
            have ew : st2 ρ 66 (37 + i) 1 66 = upd (σ 66) (37 + i) 1 := hw0.2.2
            rw [← ew] at he
            refine r_aload_n (pc := 49) B dX8_roofFor_49 rfl ?_
            refine r_iload_n (pc := 50) B dX8_roofFor_50 rfl ?_
            refine r_iload_n (pc := 51) B dX8_roofFor_51 rfl ?_
            refine r_cVpv2 (pc := 52) B KX8_173 (e_looksAt l G _ (p := drF (fun n => dH (opR (σ 66) u n)) i) hu2 hu8 rfl (by omega) (by rw [ew]; exact WR_r hW (by omega) (by decide)) ht (by rw [ew, upd, if_neg (by omega)]; exact ht1) h14 h15) rfl rfl (by decide) (Nat.le_of_ble_eq_true rfl) dX8_roofFor_52 (fun ρ1 h1 => ?_)
            have hw1 := hw0.tr h1.1
            refine r_aload_n (pc := 55) B dX8_roofFor_55 rfl ?_
            refine r_getr (pc := 56) B FX8_7 rfl rfl dX8_roofFor_56 ?_
            refine r_bipush (pc := 59) (x := 37) B dX8_roofFor_59 (by decide) ?_
            refine r_iload_n (pc := 61) B dX8_roofFor_61 rfl ?_
            refine r_iadd (pc := 62) B dX8_roofFor_62 ?_
            refine r_iconst (pc := 63) (x := 0) B dX8_roofFor_63 (by decide) ?_
            refine r_iast (pc := 64) B rfl (ix_eq (pl_nI (n := 37) rfl) (by omega) (by decide)) dX8_roofFor_64 ?_
            have hw2 := hw1.st (37 + i) 0
            rw [upd_up, ← hz0, upd_id, hz0] at hw2
            refine r_iinc_2 (pc := 65) (y := _ + 1) B dX8_roofFor_65 rfl (by decide) rfl ?_
            refine r_goto (pc := 68) B 21 dX8_roofFor_68 (by decide) ?_
            rw [nI_1]
            first | (have qq := hno; exact ih (i + 1) ρ 0 (by omega) hw (by rw [show drF (fun n => dH (opR (σ 66) u n)) (i + 1) = drS (drF (fun n => dH (opR (σ 66) u n)) i) i (dH (opR (σ 66) u i)) from rfl, hno]; exact h14) (by rw [show drF (fun n => dH (opR (σ 66) u n)) (i + 1) = drS (drF (fun n => dH (opR (σ 66) u n)) i) i (dH (opR (σ 66) u i)) from rfl, hno]; exact h15)) | exact ih (i + 1) (st2 ρ1 66 (37 + i) 0) 0 (by omega) hw2 (by rw [show drF (fun n => dH (opR (σ 66) u n)) (i + 1) = drS (drF (fun n => dH (opR (σ 66) u n)) i) i (dH (opR (σ 66) u i)) from rfl, ← he, st2_cl _ _ _ _ (by decide)]; exact h1.2.1) (by rw [show drF (fun n => dH (opR (σ 66) u n)) (i + 1) = drS (drF (fun n => dH (opR (σ 66) u n)) i) i (dH (opR (σ 66) u i)) from rfl, ← he, st2_cl _ _ _ _ (by decide)]; exact h1.2.2)
    exact hL21 16 0 _ 0 (by omega) (((roW.rf σ).fd (by omega) _).fd (by omega) _) rfl rfl
  · skip
    refine r_aload_n (pc := 8) B dX8_roofFor_8 rfl ?_
    refine r_ldc (pc := 9) B q836 dX8_roofFor_9 ?_
    refine r_cVi1 (pc := 11) B KX8_39 (e_finds l G _ (j := 0) rfl (by decide)) rfl rfl (by decide) (Nat.le_of_ble_eq_true rfl) dX8_roofFor_11 ?_
    exact r_iret (pc := 14) B R dX8_roofFor_14 (Or.inl ⟨fun q => bI_0.mp h5 q, rfl, rfl⟩)
set_option maxHeartbeats 4000000 in
set_option maxRecDepth 20000 in
theorem e_waitFor (l : Launch) (G : GG) (σ : Sg) {N : Nat} (hN8 : N ≤ 8) (hN : σ 66 0 = nI N) (hW : WR (σ 66)) {t : Nat} (ht : t ≤ 98900) (ht1 : σ 66 1 = nI t) (x : Int32) : Ct l G mX8_waitFor 8 shT [.ref (ad G 65), .int x] σ (drR σ N 12 (opW (σ 66)) x) := by
  refine ct_intro (by decide) (Nat.le_of_ble_eq_true rfl) (fun X B R => ?_)
  show V X G shT σ [some (.ref (ad G 65)), some (.int x), none, none] [] 0
  refine r_aload_n (pc := 0) B dX8_waitFor_0 rfl ?_
  refine r_iload_n (pc := 1) B dX8_waitFor_1 rfl ?_
  refine r_cVi1 (pc := 2) B KX8_89 (e_isUmbrella l G _ _) rfl rfl (by decide) (Nat.le_of_ble_eq_true rfl) dX8_waitFor_2 ?_
  refine r_if_ne (pc := 5) B 15 dX8_waitFor_5 (by decide) (fun h5 => ?_) (fun h5 => ?_)
  · skip
    obtain ⟨u, hu1, hu2⟩ := um_nR hN8 hN (bI_n.mp h5)
    have hu8 : u < 8 := by omega
    refine r_aload_n (pc := 15) B dX8_waitFor_15 rfl ?_
    refine r_cVv0 (pc := 16) B KX8_170 (e_begins l G _) rfl rfl (by decide) (Nat.le_of_ble_eq_true rfl) dX8_waitFor_16 ?_
    refine r_aload_n (pc := 19) B dX8_waitFor_19 rfl ?_
    refine r_getr (pc := 20) B FX8_7 rfl rfl dX8_waitFor_20 ?_
    refine r_iconst (pc := 23) (x := 1) B dX8_waitFor_23 (by decide) ?_
    refine r_iald (pc := 24) B rfl (ix_of 1 rfl) dX8_waitFor_24 ?_
    rw [show (st2 (st2 σ 65 14 (-1)) 65 15 100000) 66 1 = σ 66 1 from rfl]
    refine r_istore_2 (pc := 25) B dX8_waitFor_25 (by decide) rfl ?_
    refine r_iconst (pc := 26) (x := 0) B dX8_waitFor_26 (by decide) ?_
    refine r_istore_3 (pc := 27) B dX8_waitFor_27 (by decide) rfl ?_
    have hL28 : ∀ (n i : Nat) (ρ : Sg) (z : Int32), i + n = 12 → roW σ ρ (upd (σ 66) 1 z) → ρ 65 14 = (drF (fun n => dH (opW (σ 66) u n)) i).1 → ρ 65 15 = drD (drF (fun n => dH (opW (σ 66) u n)) i) → V X G shT ρ [some (.ref (ad G 65)), some (.int x), some (.int (σ 66 1)), some (.int (nI i))] [] 28 := by
      intro n
      induction n with
      | zero =>
        intro i ρ z hi hw h14 h15
        have ei : i = 12 := by omega
        subst ei
        refine r_iload_n (pc := 28) B dX8_waitFor_28 rfl ?_
        refine r_bipush (pc := 29) (x := 12) B dX8_waitFor_29 (by decide) ?_
        refine r_icmp_ge (pc := 31) B 55 dX8_waitFor_31 (by decide) (fun h31 => ?_) (fun h31 => ?_)
        · skip
          refine r_aload_n (pc := 55) B dX8_waitFor_55 rfl ?_
          refine r_getr (pc := 56) B FX8_7 rfl rfl dX8_waitFor_56 ?_
          refine r_iconst (pc := 59) (x := 1) B dX8_waitFor_59 (by decide) ?_
          refine r_iload_n (pc := 60) B dX8_waitFor_60 rfl ?_
          refine r_iast (pc := 61) B rfl (ix_of 1 rfl) dX8_waitFor_61 ?_
          have hw0 := hw.st 1 (σ 66 1)
          rw [upd_up, upd_id] at hw0
          have hw1 := hw0.ro
          refine r_aload_n (pc := 62) B dX8_waitFor_62 rfl ?_
          refine r_aload_n (pc := 63) B dX8_waitFor_63 rfl ?_
          refine r_geti (pc := 64) B FX8_163 rfl rfl dX8_waitFor_64 ?_
          rw [show st2 ρ 66 1 (σ 66 1) 65 14 = ρ 65 14 by simp [st2], h14]
          refine r_cV (pc := 67) (As := [.int _]) (C := yX8_orNone.cls) B KX8_160 (e_orNone l G _ _) (by decide) rfl rfl rfl (Nat.le_of_ble_eq_true rfl) dX8_waitFor_67 (fun r τ hq => ?_)
          rcases hq with ⟨z_1, rfl, rfl⟩ | ⟨z_1, rfl, rfl⟩
          · exact r_iret (pc := 70) B R dX8_waitFor_70 (Or.inr ⟨u, hu1, hu2, Or.inl ⟨z_1, rfl, _, hw1, rfl⟩⟩)
          · exact r_iret (pc := 70) B R dX8_waitFor_70 (Or.inr ⟨u, hu1, hu2, Or.inr ⟨z_1, rfl, hw1⟩⟩)
        · skip
          exact absurd ((nI_leI (a := 12) (b := 12) (by omega) (by omega)).mpr (Nat.le_refl _)) h31
      | succ n ih =>
        intro i ρ z hi hw h14 h15
        refine r_iload_n (pc := 28) B dX8_waitFor_28 rfl ?_
        refine r_bipush (pc := 29) (x := 12) B dX8_waitFor_29 (by decide) ?_
        refine r_icmp_ge (pc := 31) B 55 dX8_waitFor_31 (by decide) (fun h31 => ?_) (fun h31 => ?_)
        · skip
          exact absurd ((nI_leI (a := 12) (b := i) (by omega) (by omega)).mp h31) (by omega)
        · skip
          refine r_aload_n (pc := 34) B dX8_waitFor_34 rfl ?_
          refine r_getr (pc := 35) B FX8_7 rfl rfl dX8_waitFor_35 ?_
          refine r_iconst (pc := 38) (x := 1) B dX8_waitFor_38 (by decide) ?_
          refine r_iload_n (pc := 39) B dX8_waitFor_39 rfl ?_
          refine r_iload_n (pc := 40) B dX8_waitFor_40 rfl ?_
          refine r_iadd (pc := 41) B dX8_waitFor_41 ?_
          refine r_iast (pc := 42) B rfl (ix_of 1 rfl) dX8_waitFor_42 ?_
          have hw0 := hw.st 1 (σ 66 1 + nI i)
          rw [upd_up] at hw0
          have ew : st2 ρ 66 1 (σ 66 1 + nI i) 66 = upd (σ 66) 1 (σ 66 1 + nI i) := hw0.2.2
          have he := dH_W (w := σ 66) (u := u) (n := i) (t := t) (by omega) ht1
          rw [← ew] at he
          refine r_aload_n (pc := 43) B dX8_waitFor_43 rfl ?_
          refine r_iload_n (pc := 44) B dX8_waitFor_44 rfl ?_
          refine r_iload_n (pc := 45) B dX8_waitFor_45 rfl ?_
          refine r_cVpv2 (pc := 46) B KX8_173 (e_looksAt l G _ (p := drF (fun n => dH (opW (σ 66) u n)) i) (t := t + i) hu2 hu8 rfl (by omega) (by rw [ew]; exact WR_t hW (by omega) _) (by omega) (by rw [ew, upd, if_pos rfl, ht1, nI_add]) h14 h15) rfl rfl (by decide) (Nat.le_of_ble_eq_true rfl) dX8_waitFor_46 (fun ρ1 h1 => ?_)
          have hw1 := hw0.tr h1.1
          refine r_iinc_3 (pc := 49) (y := _ + 1) B dX8_waitFor_49 rfl (by decide) rfl ?_
          refine r_goto (pc := 52) B 28 dX8_waitFor_52 (by decide) ?_
          rw [nI_1]
          exact ih (i + 1) ρ1 (σ 66 1 + nI i) (by omega) hw1 (by rw [show drF (fun n => dH (opW (σ 66) u n)) (i + 1) = drS (drF (fun n => dH (opW (σ 66) u n)) i) i (dH (opW (σ 66) u i)) from rfl, ← he]; exact h1.2.1) (by rw [show drF (fun n => dH (opW (σ 66) u n)) (i + 1) = drS (drF (fun n => dH (opW (σ 66) u n)) i) i (dH (opW (σ 66) u i)) from rfl, ← he]; exact h1.2.2)
    exact hL28 12 0 _ (σ 66 1) (by omega) (by rw [upd_id]; exact ((roW.rf σ).fd (by omega) _).fd (by omega) _) rfl rfl
  · skip
    refine r_aload_n (pc := 8) B dX8_waitFor_8 rfl ?_
    refine r_ldc (pc := 9) B q836 dX8_waitFor_9 ?_
    refine r_cVi1 (pc := 11) B KX8_39 (e_finds l G _ (j := 0) rfl (by decide)) rfl rfl (by decide) (Nat.le_of_ble_eq_true rfl) dX8_waitFor_11 ?_
    exact r_iret (pc := 14) B R dX8_waitFor_14 (Or.inl ⟨fun q => bI_0.mp h5 q, rfl, rfl⟩)
theorem hm_mono {w : Nat → Int32} {u : Nat} (hu : u < 8) : ∀ n s, WR (alR w u s) → s.2 6 ≤ (hmN (wF w) n s).2.2 6
  | 0, s, _ => Int32.le_refl _
  | n + 1, s, h => by
    rw [hmN]
    split
    · exact Int32.le_refl _
    · have q := hm_mono hu n (wF w s) (wF_WR hu h)
      rcases step6 hu h with e | e
      · rw [e] at q; exact q
      · exact Int32.le_trans (Int32.le_of_lt e) q
theorem ch_hm {w : Nat → Int32} {u : Nat} (hu : u < 8) (t : Int32) : ∀ n s, WR (alR w u s) → s.2 6 = t → (chN (wF w) t n s ↔ ((hmN (wF w) n s).2.2 1 = 16 ∧ (hmN (wF w) n s).2.2 6 = t))
  | 0, s, _, e => ⟨fun q => ⟨q, e⟩, fun q => q.1⟩
  | n + 1, s, h, e => by
    rw [hmN, chN]
    by_cases q : s.2 1 = 16
    · rw [if_pos q]; exact ⟨fun _ => ⟨q, e⟩, fun _ => Or.inl q⟩
    · rw [if_neg q]
      rcases step6 hu h with z | z
      · have ih := ch_hm hu t n (wF w s) (wF_WR hu h) (z.trans e)
        rw [← ih]
        exact ⟨fun y => y.elim (fun y => absurd y q) (fun y => y.2), fun y => Or.inr ⟨z.trans e, y⟩⟩
      · have m := hm_mono hu n (wF w s) (wF_WR hu h)
        rw [e] at z
        exact ⟨fun y => y.elim (fun y => absurd y q) (fun y => absurd y.1 (i32_ne z)), fun y => absurd y.2 (i32_ne (Int32.lt_of_lt_of_le z m))⟩
theorem ch_W2 {w : Nat → Int32} {u : Nat} (hu : u < 8) (hW : WR w) : chN (wF w) (um w u 6) 200 (w 1, um w u) ↔ ((hmW w u).2.2 1 = 16 ∧ (hmW w u).2.2 6 = um w u 6) := ch_hm hu _ 200 _ (by rw [alR_0]; exact hW) rfl

set_option maxHeartbeats 4000000 in
set_option maxRecDepth 20000 in
theorem e_isWhole (l : Launch) (G : GG) (σ : Sg) {u : Nat} {x : Int32} (hx : x = nI u) (hu : u < 8) (hW : WR (σ 66)) {t : Nat} (ht : t ≤ 99000) (ht1 : σ 66 1 = nI t) : CpI l G mX8_isWhole 7 shT [.ref (ad G 65), .int x] σ (chB (wF (σ 66)) (um (σ 66) u 6) 200 (σ 66 1, um (σ 66) u)) (ro σ) := by
  subst hx
  have hc := ch_W2 hu hW
  refine ct_intro (by decide) (Nat.le_of_ble_eq_true rfl) (fun X B R => ?_)
  show V X G shT σ [some (.ref (ad G 65)), some (.int (nI u))] [] 0
  refine r_aload_n (pc := 0) B dX8_isWhole_0 rfl ?_
  refine r_iload_n (pc := 1) B dX8_isWhole_1 rfl ?_
  refine r_cVpi1 (pc := 2) B KX8_157 (e_follows l G _ rfl hu hW ht ht1) rfl rfl (by decide) (Nat.le_of_ble_eq_true rfl) dX8_isWhole_2 (fun ρ1 h1 => ?_)
  refine r_if_lt (pc := 5) B 26 dX8_isWhole_5 (by decide) (fun h5 => ?_) (fun h5 => ?_)
  · skip
    refine r_iconst (pc := 26) (x := 0) B dX8_isWhole_26 (by decide) ?_
    exact r_zret (pc := 27) B R (by first | decide | exact bI_01 _) dX8_isWhole_27 (by first | exact ⟨by rw [chB_f (fun q => hmW_neg h5 (hc.mp q).1)], h1.1⟩ | exact ⟨by rw [chB_f (fun q => h19 (hc.mp q).2)], h1.1⟩ | exact ⟨by rw [chB_t (hc.mpr ⟨hmW_pos h5, Classical.not_not.mp h19⟩)], h1.1⟩ | exact ⟨by rw [chB_t (hc.mpr ⟨hmW_pos h5, h19⟩)], h1.1⟩)
  · skip
    refine r_aload_n (pc := 8) B dX8_isWhole_8 rfl ?_
    refine r_geti (pc := 9) B FX8_151 rfl rfl dX8_isWhole_9 ?_
    rw [h1.2.2.1]
    refine r_aload_n (pc := 12) B dX8_isWhole_12 rfl ?_
    refine r_iload_n (pc := 13) B dX8_isWhole_13 rfl ?_
    refine r_bipush (pc := 14) (x := 6) B dX8_isWhole_14 (by decide) ?_
    refine r_cVi2 (pc := 16) B KX8_59 (e_its l G _ (u := u) (i := 6) rfl rfl hu (by decide)) rfl rfl (by decide) (Nat.le_of_ble_eq_true rfl) dX8_isWhole_16 ?_
    rw [show ρ1 66 (53 + 8 * u + 6) = um (σ 66) u 6 by rw [h1.1.1 66 (by decide) (by decide)]; rfl]
    refine r_icmp_ne (pc := 19) B 26 dX8_isWhole_19 (by decide) (fun h19 => ?_) (fun h19 => ?_)
    · skip
      refine r_iconst (pc := 26) (x := 0) B dX8_isWhole_26 (by decide) ?_
      exact r_zret (pc := 27) B R (by first | decide | exact bI_01 _) dX8_isWhole_27 (by first | exact ⟨by rw [chB_f (fun q => hmW_neg h5 (hc.mp q).1)], h1.1⟩ | exact ⟨by rw [chB_f (fun q => h19 (hc.mp q).2)], h1.1⟩ | exact ⟨by rw [chB_t (hc.mpr ⟨hmW_pos h5, Classical.not_not.mp h19⟩)], h1.1⟩ | exact ⟨by rw [chB_t (hc.mpr ⟨hmW_pos h5, h19⟩)], h1.1⟩)
    · skip
      refine r_iconst (pc := 22) (x := 1) B dX8_isWhole_22 (by decide) ?_
      refine r_goto (pc := 23) B 27 dX8_isWhole_23 (by decide) ?_
      exact r_zret (pc := 27) B R (by first | decide | exact bI_01 _) dX8_isWhole_27 (by first | exact ⟨by rw [chB_f (fun q => hmW_neg h5 (hc.mp q).1)], h1.1⟩ | exact ⟨by rw [chB_f (fun q => h19 (hc.mp q).2)], h1.1⟩ | exact ⟨by rw [chB_t (hc.mpr ⟨hmW_pos h5, Classical.not_not.mp h19⟩)], h1.1⟩ | exact ⟨by rw [chB_t (hc.mpr ⟨hmW_pos h5, h19⟩)], h1.1⟩)
def gI : Nat → Int32
  | 0 => -1
  | n + 1 => nI n
theorem gI_dn : ∀ n, n < 101 → gI (n + 1) - 1 = gI n := by decide +kernel
noncomputable def gfR (o : Option Nat) : Nat := match o with
  | none => 0
  | some n => n + 1
theorem gf_cg {w : Nat → Int32} {u g : Nat} : chB (wF (upd w 4 (nI g))) (um (upd w 4 (nI g)) u 6) 200 (upd w 4 (nI g) 1, um (upd w 4 (nI g)) u) = chB (wF (upd w 4 (nI g))) (um w u 6) 200 (w 1, um w u) := by
  rw [show upd w 4 (nI g) 1 = w 1 by rw [upd, if_neg (by omega)], show um (upd w 4 (nI g)) u = um w u by funext i; unfold um; rw [upd, if_neg (by omega)]]
theorem rf_cg {w : Nat → Int32} {u g : Nat} (hu : u < 8) : chB (wF (upd w (53 + 8 * u + 4) (nI g))) (um (upd w (53 + 8 * u + 4) (nI g)) u 6) 200 (upd w (53 + 8 * u + 4) (nI g) 1, um (upd w (53 + 8 * u + 4) (nI g)) u) = chB (wF w) (upd (um w u) 4 (nI g) 6) 200 (w 1, upd (um w u) 4 (nI g)) := by
  have e : ∀ i, i < 8 → um (upd w (53 + 8 * u + 4) (nI g)) u i = upd (um w u) 4 (nI g) i := fun i hi => by
    show upd w (53 + 8 * u + 4) (nI g) (53 + 8 * u + i) = _
    unfold upd
    by_cases q : i = 4
    · rw [if_pos (by omega), if_pos q]
    · rw [if_neg (by omega), if_neg q]; rfl
  rw [e 6 (by omega)]
  have q := chN_congr (rsp_wF (w := upd w (53 + 8 * u + 4) (nI g)) (x := w) (by rw [upd, if_neg (by omega)]) (by rw [upd, if_neg (by omega)]) (fun k hk => by rw [upd, if_neg (by omega)])) (upd (um w u) 4 (nI g) 6) 200 (upd w (53 + 8 * u + 4) (nI g) 1, um (upd w (53 + 8 * u + 4) (nI g)) u) (w 1, upd (um w u) 4 (nI g)) ⟨by show upd w (53 + 8 * u + 4) (nI g) 1 = w 1; rw [upd, if_neg (by omega)], e⟩
  by_cases z : chN (wF w) (upd (um w u) 4 (nI g) 6) 200 (w 1, upd (um w u) 4 (nI g))
  · rw [chB_t z, chB_t (q.mpr z)]
  · rw [chB_f z, chB_f (fun y => z (q.mp y))]

set_option maxHeartbeats 4000000 in
set_option maxRecDepth 20000 in
theorem e_gustFor (l : Launch) (G : GG) (σ : Sg) {N : Nat} (hN8 : N ≤ 8) (hN : σ 66 0 = nI N) (hW : WR (σ 66)) {t : Nat} (ht : t ≤ 99000) (ht1 : σ 66 1 = nI t) (x : Int32) : Ct l G mX8_gustFor 8 shT [.ref (ad G 65), .int x] σ (fun r τ => (¬ umR σ x ∧ gQ σ 0 r τ) ∨ ∃ u, u < N ∧ x = nI u ∧ ((gfN (σ 66) u 100 = none ∧ gW σ 3 r τ) ∨ ∃ g, gfN (σ 66) u 100 = some g ∧ r = some (.int (nI g)) ∧ ro σ τ)) := by
  refine ct_intro (by decide) (Nat.le_of_ble_eq_true rfl) (fun X B R => ?_)
  show V X G shT σ [some (.ref (ad G 65)), some (.int x), none, none] [] 0
  refine r_aload_n (pc := 0) B dX8_gustFor_0 rfl ?_
  refine r_iload_n (pc := 1) B dX8_gustFor_1 rfl ?_
  refine r_cVi1 (pc := 2) B KX8_89 (e_isUmbrella l G _ _) rfl rfl (by decide) (Nat.le_of_ble_eq_true rfl) dX8_gustFor_2 ?_
  refine r_if_ne (pc := 5) B 15 dX8_gustFor_5 (by decide) (fun h5 => ?_) (fun h5 => ?_)
  · skip
    obtain ⟨u, hu1, hu2⟩ := um_nR hN8 hN (bI_n.mp h5)
    have hu8 : u < 8 := by omega
    refine r_aload_n (pc := 15) B dX8_gustFor_15 rfl ?_
    refine r_getr (pc := 16) B FX8_7 rfl rfl dX8_gustFor_16 ?_
    refine r_iconst (pc := 19) (x := 4) B dX8_gustFor_19 (by decide) ?_
    refine r_iald (pc := 20) B rfl (ix_of 4 rfl) dX8_gustFor_20 ?_
    refine r_istore_2 (pc := 21) B dX8_gustFor_21 (by decide) rfl ?_
    have hJ60 : ∀ (n : Nat) (ρ : Sg), n ≤ 100 → gfR (gfN (σ 66) u 100) = n → roW σ ρ (upd (σ 66) 4 (gI n)) → V X G shT ρ [some (.ref (ad G 65)), some (.int x), some (.int (σ 66 4)), none] [] 60 := by
      intro n ρ hn hg hw
      refine r_aload_n (pc := 60) B dX8_gustFor_60 rfl ?_
      refine r_getr (pc := 61) B FX8_7 rfl rfl dX8_gustFor_61 ?_
      refine r_iconst (pc := 64) (x := 4) B dX8_gustFor_64 (by decide) ?_
      refine r_iald (pc := 65) B rfl (ix_of 4 rfl) dX8_gustFor_65 ?_
      rw [hw.2.2, upd, if_pos rfl]
      refine r_istore_3 (pc := 66) B dX8_gustFor_66 (by decide) rfl ?_
      refine r_aload_n (pc := 67) B dX8_gustFor_67 rfl ?_
      refine r_getr (pc := 68) B FX8_7 rfl rfl dX8_gustFor_68 ?_
      refine r_iconst (pc := 71) (x := 4) B dX8_gustFor_71 (by decide) ?_
      refine r_iload_n (pc := 72) B dX8_gustFor_72 rfl ?_
      refine r_iast (pc := 73) B rfl (ix_of 4 rfl) dX8_gustFor_73 ?_
      have hw0 := hw.st 4 (σ 66 4)
      rw [upd_up, upd_id] at hw0
      have hw1 := hw0.ro
      refine r_aload_n (pc := 74) B dX8_gustFor_74 rfl ?_
      refine r_iload_n (pc := 75) B dX8_gustFor_75 rfl ?_
      refine r_cV (pc := 76) (As := [.int _]) (C := yX8_orNone.cls) B KX8_160 (e_orNone l G _ _) (by decide) rfl rfl rfl (Nat.le_of_ble_eq_true rfl) dX8_gustFor_76 (fun r τ hq => ?_)
      rcases hq with ⟨z, rfl, rfl⟩ | ⟨z, rfl, rfl⟩
      · exact r_iret (pc := 79) B R dX8_gustFor_79 (Or.inr ⟨u, hu1, hu2, Or.inl ⟨by cases hq : gfN (σ 66) u 100 with | none => rfl | some g => (rw [hq] at hg; rw [← hg] at z; exact absurd z (nI_pos (by simp only [gfR] at hg; omega))), rfl, _, hw1, rfl⟩⟩)
      · exact r_iret (pc := 79) B R dX8_gustFor_79 (Or.inr ⟨u, hu1, hu2, Or.inr (by cases hq : gfN (σ 66) u 100 with | none => (rw [hq] at hg; rw [← hg] at z; exact absurd (show gI (gfR none) < 0 by decide) z) | some g => (rw [hq] at hg; exact ⟨g, rfl, by rw [← hg]; rfl, hw1⟩))⟩)
    refine r_aload_n (pc := 22) B dX8_gustFor_22 rfl ?_
    refine r_getr (pc := 23) B FX8_7 rfl rfl dX8_gustFor_23 ?_
    refine r_iconst (pc := 26) (x := 4) B dX8_gustFor_26 (by decide) ?_
    refine r_bipush (pc := 27) (x := 99) B dX8_gustFor_27 (by decide) ?_
    refine r_iast (pc := 29) B rfl (ix_of 4 rfl) dX8_gustFor_29 ?_
    have hw00 := (roW.rf σ).st 4 99
    have hL30 : ∀ (n : Nat) (ρ : Sg), n ≤ 100 → gfN (σ 66) u 100 = gfN (σ 66) u n → roW σ ρ (upd (σ 66) 4 (gI n)) → V X G shT ρ [some (.ref (ad G 65)), some (.int x), some (.int (σ 66 4)), none] [] 30 := by
      intro n
      induction n with
      | zero =>
        intro ρ hn hg hw
        refine r_aload_n (pc := 30) B dX8_gustFor_30 rfl ?_
        refine r_getr (pc := 31) B FX8_7 rfl rfl dX8_gustFor_31 ?_
        refine r_iconst (pc := 34) (x := 4) B dX8_gustFor_34 (by decide) ?_
        refine r_iald (pc := 35) B rfl (ix_of 4 rfl) dX8_gustFor_35 ?_
        rw [hw.2.2, upd, if_pos rfl]
        refine r_if_lt (pc := 36) B 60 dX8_gustFor_36 (by decide) (fun h36 => ?_) (fun h36 => ?_)
        · skip
          exact hJ60 0 ρ (by omega) (by rw [hg]; rfl) hw
        · skip
          exact absurd (show gI 0 < 0 by decide) h36
      | succ n ih =>
        intro ρ hn hg hw
        refine r_aload_n (pc := 30) B dX8_gustFor_30 rfl ?_
        refine r_getr (pc := 31) B FX8_7 rfl rfl dX8_gustFor_31 ?_
        refine r_iconst (pc := 34) (x := 4) B dX8_gustFor_34 (by decide) ?_
        refine r_iald (pc := 35) B rfl (ix_of 4 rfl) dX8_gustFor_35 ?_
        rw [hw.2.2, upd, if_pos rfl]
        refine r_if_lt (pc := 36) B 60 dX8_gustFor_36 (by decide) (fun h36 => ?_) (fun h36 => ?_)
        · skip
          exact absurd h36 (nI_pos (by omega))
        · skip
          refine r_aload_n (pc := 39) B dX8_gustFor_39 rfl ?_
          refine r_iload_n (pc := 40) B dX8_gustFor_40 rfl ?_
          refine r_cVpi1 (pc := 41) B KX8_180 (e_isWhole l G _ hu2 hu8 (by rw [hw.2.2]; exact WR_g hW (nI_wi (g := 99) (by decide) (by omega))) ht (by rw [hw.2.2, upd, if_neg (by omega)]; exact ht1)) rfl rfl (by decide) (Nat.le_of_ble_eq_true rfl) dX8_gustFor_41 (fun ρ1 h1 => ?_)
          rw [hw.2.2]
          have hw1 := hw.tr h1
          rw [show gI (n + 1) = nI n from rfl, gf_cg]
          refine r_if_ne (pc := 44) B 60 dX8_gustFor_44 (by decide) (fun h44 => ?_) (fun h44 => ?_)
          · skip
            have hc0 : ¬ chB (wF (upd (σ 66) 4 (nI n))) (um (σ 66) u 6) 200 (σ 66 1, um (σ 66) u) = 0 := h44
            exact hJ60 (n + 1) ρ1 (by omega) (by rw [hg, gfN, if_neg hc0]; rfl) hw1
          · skip
            have hc0 : chB (wF (upd (σ 66) 4 (nI n))) (um (σ 66) u 6) 200 (σ 66 1, um (σ 66) u) = 0 := by grind
            refine r_aload_n (pc := 47) B dX8_gustFor_47 rfl ?_
            refine r_getr (pc := 48) B FX8_7 rfl rfl dX8_gustFor_48 ?_
            refine r_iconst (pc := 51) (x := 4) B dX8_gustFor_51 (by decide) ?_
            refine r_dup2 (pc := 52) B rfl rfl dX8_gustFor_52 ?_
            refine r_iald (pc := 53) B rfl (ix_of 4 rfl) dX8_gustFor_53 ?_
            rw [hw1.2.2, upd, if_pos rfl]
            refine r_iconst (pc := 54) (x := 1) B dX8_gustFor_54 (by decide) ?_
            refine r_isub (pc := 55) B dX8_gustFor_55 ?_
            refine r_iast (pc := 56) B rfl (ix_of 4 rfl) dX8_gustFor_56 ?_
            have hw2 := hw1.st 4 (gI (n + 1) - 1)
            rw [upd_up, gI_dn n (by omega)] at hw2
            rw [gI_dn n (by omega)]
            refine r_goto (pc := 57) B 30 dX8_gustFor_57 (by decide) ?_
            exact ih _ (by omega) (by rw [hg, gfN, if_pos hc0]) hw2
    exact hL30 100 _ (by omega) rfl hw00
  · skip
    refine r_aload_n (pc := 8) B dX8_gustFor_8 rfl ?_
    refine r_ldc (pc := 9) B q836 dX8_gustFor_9 ?_
    refine r_cVi1 (pc := 11) B KX8_39 (e_finds l G _ (j := 0) rfl (by decide)) rfl rfl (by decide) (Nat.le_of_ble_eq_true rfl) dX8_gustFor_11 ?_
    exact r_iret (pc := 14) B R dX8_gustFor_14 (Or.inl ⟨fun q => bI_0.mp h5 q, rfl, rfl⟩)

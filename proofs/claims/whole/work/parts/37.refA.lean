/-! the reference's street, umbrellas, ticks -/
theorem st_ix : ∀ k, k < 3 → ∀ j, j < 16 → (5 : Int32) + 16 * nI k + nI j = nI (5 + 16 * k + j) := by decide +kernel
theorem b01 (p : Prop) [Decidable p] : ¬ bI p = 0 → p := bI_n.mp

set_option maxHeartbeats 4000000 in
set_option maxRecDepth 20000 in
theorem e_step (l : Launch) (G : GG) (σ : Sg) (x a v : Int32) : Ct l G mX8_step 1 shT [.ref (ad G 65), .int x, .int a, .int v] σ (fun r τ => (¬ (stepP x ∧ withinP a 2 ∧ withinP v (gS a)) ∧ gQ σ 0 r τ) ∨ ∃ j k, j < 16 ∧ k < 3 ∧ x = nI j ∧ a = nI k ∧ withinP v (gS a) ∧ r = some (.int (σ 66 (5 + 16 * k + j))) ∧ τ = sR σ (upd (σ 66) (5 + 16 * k + j) v)) := by
  refine ct_intro (by decide) (Nat.le_of_ble_eq_true rfl) (fun X B R => ?_)
  show V X G shT σ [some (.ref (ad G 65)), some (.int x), some (.int a), some (.int v)] [] 0
  refine r_iload_n (pc := 0) B dX8_step_0 rfl ?_
  refine r_cSi1 (pc := 1) B KX8_43 (e_isStep l G _ _ _) (by decide) (Nat.le_of_ble_eq_true rfl) dX8_step_1 ?_
  refine r_if_eq (pc := 4) B 50 dX8_step_4 (by decide) (fun h4 => ?_) (fun h4 => ?_)
  · skip
    refine r_aload_n (pc := 50) B dX8_step_50 rfl ?_
    refine r_ldc (pc := 51) B q836 dX8_step_51 ?_
    refine r_cVi1 (pc := 53) B KX8_39 (e_finds l G _ (j := 0) rfl (by decide)) rfl rfl (by decide) (Nat.le_of_ble_eq_true rfl) dX8_step_53 ?_
    exact r_iret (pc := 56) B R dX8_step_56 (Or.inl ⟨by first | exact fun q => bI_0.mp h4 q.1 | exact fun q => bI_0.mp h16 q.2.1 | exact fun q => bI_0.mp h47 q.2.2, rfl, rfl⟩)
  · skip
    obtain ⟨j, hj, hx⟩ := stepP_nI (bI_n.mp h4)
    refine r_iload_n (pc := 7) B dX8_step_7 rfl ?_
    refine r_i2l (pc := 8) B dX8_step_8 ?_
    refine r_lconst (pc := 9) (x := 0) B dX8_step_9 rfl ?_
    refine r_ldc2_w (pc := 10) B q831 dX8_step_10 ?_
    refine r_cSi3 (pc := 13) B KX8_49 (e_isIn l G _ _ (v := a) (a := 0) (b := 2) rfl rfl rfl) (by decide) (Nat.le_of_ble_eq_true rfl) dX8_step_13 ?_
    refine r_if_eq (pc := 16) B 50 dX8_step_16 (by decide) (fun h16 => ?_) (fun h16 => ?_)
    · skip
      refine r_aload_n (pc := 50) B dX8_step_50 rfl ?_
      refine r_ldc (pc := 51) B q836 dX8_step_51 ?_
      refine r_cVi1 (pc := 53) B KX8_39 (e_finds l G _ (j := 0) rfl (by decide)) rfl rfl (by decide) (Nat.le_of_ble_eq_true rfl) dX8_step_53 ?_
      exact r_iret (pc := 56) B R dX8_step_56 (Or.inl ⟨by first | exact fun q => bI_0.mp h4 q.1 | exact fun q => bI_0.mp h16 q.2.1 | exact fun q => bI_0.mp h47 q.2.2, rfl, rfl⟩)
    · skip
      obtain ⟨k, hk, ha⟩ := wi_nI (g := 2) (by decide) (bI_n.mp h16)
      refine r_iload_n (pc := 19) B dX8_step_19 rfl ?_
      refine r_i2l (pc := 20) B dX8_step_20 ?_
      refine r_lconst (pc := 21) (x := 0) B dX8_step_21 rfl ?_
      refine r_iload_n (pc := 22) B dX8_step_22 rfl ?_
      refine r_if_ne (pc := 23) B 32 dX8_step_23 (by decide) (fun h23 => ?_) (fun h23 => ?_)
      · skip
        refine r_iload_n (pc := 32) B dX8_step_32 rfl ?_
        refine r_iconst (pc := 33) (x := 1) B dX8_step_33 (by decide) ?_
        refine r_icmp_ne (pc := 34) B 43 dX8_step_34 (by decide) (fun h34 => ?_) (fun h34 => ?_)
        · skip
          refine r_lconst (pc := 43) (x := 1) B dX8_step_43 rfl ?_
          refine r_cSi3 (pc := 44) B KX8_49 (e_isIn l G _ _ (v := v) (a := 0) (b := (gS a)) rfl rfl (by unfold gS; first | (rw [if_pos h23]; rfl) | (rw [if_neg h23, if_pos h34]; rfl) | (rw [if_neg h23, if_neg h34]; rfl))) (by decide) (Nat.le_of_ble_eq_true rfl) dX8_step_44 ?_
          refine r_if_ne (pc := 47) B 57 dX8_step_47 (by decide) (fun h47 => ?_) (fun h47 => ?_)
          · skip
            refine r_aload_n (pc := 57) B dX8_step_57 rfl ?_
            refine r_iconst (pc := 58) (x := 5) B dX8_step_58 (by decide) ?_
            refine r_bipush (pc := 59) (x := 16) B dX8_step_59 (by decide) ?_
            refine r_iload_n (pc := 61) B dX8_step_61 rfl ?_
            refine r_imul (pc := 62) B dX8_step_62 ?_
            refine r_iadd (pc := 63) B dX8_step_63 ?_
            refine r_iload_n (pc := 64) B dX8_step_64 rfl ?_
            refine r_iadd (pc := 65) B dX8_step_65 ?_
            refine r_iload_n (pc := 66) B dX8_step_66 rfl ?_
            refine r_cVi2 (pc := 67) B KX8_55 (e_becomes l G _ (m := 5 + 16 * k + j) (by rw [ha, hx]; exact st_ix k (by omega) j hj) (by omega) _) rfl rfl (by decide) (Nat.le_of_ble_eq_true rfl) dX8_step_67 ?_
            exact r_iret (pc := 70) B R dX8_step_70 (Or.inr ⟨j, k, hj, by omega, hx, ha, bI_n.mp h47, rfl, rfl⟩)
          · skip
            refine r_aload_n (pc := 50) B dX8_step_50 rfl ?_
            refine r_ldc (pc := 51) B q836 dX8_step_51 ?_
            refine r_cVi1 (pc := 53) B KX8_39 (e_finds l G _ (j := 0) rfl (by decide)) rfl rfl (by decide) (Nat.le_of_ble_eq_true rfl) dX8_step_53 ?_
            exact r_iret (pc := 56) B R dX8_step_56 (Or.inl ⟨by first | exact fun q => bI_0.mp h4 q.1 | exact fun q => bI_0.mp h16 q.2.1 | exact fun q => bI_0.mp h47 q.2.2, rfl, rfl⟩)
        · skip
          refine r_ldc2_w (pc := 37) B q835 dX8_step_37 ?_
          refine r_goto (pc := 40) B 44 dX8_step_40 (by decide) ?_
          refine r_cSi3 (pc := 44) B KX8_49 (e_isIn l G _ _ (v := v) (a := 0) (b := (gS a)) rfl rfl (by unfold gS; first | (rw [if_pos h23]; rfl) | (rw [if_neg h23, if_pos h34]; rfl) | (rw [if_neg h23, if_neg h34]; rfl))) (by decide) (Nat.le_of_ble_eq_true rfl) dX8_step_44 ?_
          refine r_if_ne (pc := 47) B 57 dX8_step_47 (by decide) (fun h47 => ?_) (fun h47 => ?_)
          · skip
            refine r_aload_n (pc := 57) B dX8_step_57 rfl ?_
            refine r_iconst (pc := 58) (x := 5) B dX8_step_58 (by decide) ?_
            refine r_bipush (pc := 59) (x := 16) B dX8_step_59 (by decide) ?_
            refine r_iload_n (pc := 61) B dX8_step_61 rfl ?_
            refine r_imul (pc := 62) B dX8_step_62 ?_
            refine r_iadd (pc := 63) B dX8_step_63 ?_
            refine r_iload_n (pc := 64) B dX8_step_64 rfl ?_
            refine r_iadd (pc := 65) B dX8_step_65 ?_
            refine r_iload_n (pc := 66) B dX8_step_66 rfl ?_
            refine r_cVi2 (pc := 67) B KX8_55 (e_becomes l G _ (m := 5 + 16 * k + j) (by rw [ha, hx]; exact st_ix k (by omega) j hj) (by omega) _) rfl rfl (by decide) (Nat.le_of_ble_eq_true rfl) dX8_step_67 ?_
            exact r_iret (pc := 70) B R dX8_step_70 (Or.inr ⟨j, k, hj, by omega, hx, ha, bI_n.mp h47, rfl, rfl⟩)
          · skip
            refine r_aload_n (pc := 50) B dX8_step_50 rfl ?_
            refine r_ldc (pc := 51) B q836 dX8_step_51 ?_
            refine r_cVi1 (pc := 53) B KX8_39 (e_finds l G _ (j := 0) rfl (by decide)) rfl rfl (by decide) (Nat.le_of_ble_eq_true rfl) dX8_step_53 ?_
            exact r_iret (pc := 56) B R dX8_step_56 (Or.inl ⟨by first | exact fun q => bI_0.mp h4 q.1 | exact fun q => bI_0.mp h16 q.2.1 | exact fun q => bI_0.mp h47 q.2.2, rfl, rfl⟩)
      · skip
        refine r_ldc2_w (pc := 26) B q831 dX8_step_26 ?_
        refine r_goto (pc := 29) B 44 dX8_step_29 (by decide) ?_
        refine r_cSi3 (pc := 44) B KX8_49 (e_isIn l G _ _ (v := v) (a := 0) (b := (gS a)) rfl rfl (by unfold gS; first | (rw [if_pos h23]; rfl) | (rw [if_neg h23, if_pos h34]; rfl) | (rw [if_neg h23, if_neg h34]; rfl))) (by decide) (Nat.le_of_ble_eq_true rfl) dX8_step_44 ?_
        refine r_if_ne (pc := 47) B 57 dX8_step_47 (by decide) (fun h47 => ?_) (fun h47 => ?_)
        · skip
          refine r_aload_n (pc := 57) B dX8_step_57 rfl ?_
          refine r_iconst (pc := 58) (x := 5) B dX8_step_58 (by decide) ?_
          refine r_bipush (pc := 59) (x := 16) B dX8_step_59 (by decide) ?_
          refine r_iload_n (pc := 61) B dX8_step_61 rfl ?_
          refine r_imul (pc := 62) B dX8_step_62 ?_
          refine r_iadd (pc := 63) B dX8_step_63 ?_
          refine r_iload_n (pc := 64) B dX8_step_64 rfl ?_
          refine r_iadd (pc := 65) B dX8_step_65 ?_
          refine r_iload_n (pc := 66) B dX8_step_66 rfl ?_
          refine r_cVi2 (pc := 67) B KX8_55 (e_becomes l G _ (m := 5 + 16 * k + j) (by rw [ha, hx]; exact st_ix k (by omega) j hj) (by omega) _) rfl rfl (by decide) (Nat.le_of_ble_eq_true rfl) dX8_step_67 ?_
          exact r_iret (pc := 70) B R dX8_step_70 (Or.inr ⟨j, k, hj, by omega, hx, ha, bI_n.mp h47, rfl, rfl⟩)
        · skip
          refine r_aload_n (pc := 50) B dX8_step_50 rfl ?_
          refine r_ldc (pc := 51) B q836 dX8_step_51 ?_
          refine r_cVi1 (pc := 53) B KX8_39 (e_finds l G _ (j := 0) rfl (by decide)) rfl rfl (by decide) (Nat.le_of_ble_eq_true rfl) dX8_step_53 ?_
          exact r_iret (pc := 56) B R dX8_step_56 (Or.inl ⟨by first | exact fun q => bI_0.mp h4 q.1 | exact fun q => bI_0.mp h16 q.2.1 | exact fun q => bI_0.mp h47 q.2.2, rfl, rfl⟩)
set_option maxHeartbeats 4000000 in
set_option maxRecDepth 20000 in
theorem e_stepOf (l : Launch) (G : GG) (σ : Sg) {N : Nat} (hN8 : N ≤ 8) (hN : σ 66 0 = nI N) (x a : Int32) : Ct l G mX8_stepOf 2 shT [.ref (ad G 65), .int x, .int a] σ (fun r τ => (¬ (stepP x ∧ withinP a 4) ∧ gQ σ 0 r τ) ∨ ∃ j k, j < 16 ∧ k < 5 ∧ x = nI j ∧ a = nI k ∧ τ = σ ∧ r = some (.int (if k < 3 then σ 66 (5 + 16 * k + j) else if k = 3 then Wd (σ 66) j else orS (fun u => σ 66 (53 + 8 * u + 1) = nI j) (fun _ => inferInstance) N))) := by
  refine ct_intro (by decide) (Nat.le_of_ble_eq_true rfl) (fun X B R => ?_)
  show V X G shT σ [some (.ref (ad G 65)), some (.int x), some (.int a)] [] 0
  refine r_iload_n (pc := 0) B dX8_stepOf_0 rfl ?_
  refine r_cSi1 (pc := 1) B KX8_43 (e_isStep l G _ _ _) (by decide) (Nat.le_of_ble_eq_true rfl) dX8_stepOf_1 ?_
  refine r_if_eq (pc := 4) B 19 dX8_stepOf_4 (by decide) (fun h4 => ?_) (fun h4 => ?_)
  · skip
    refine r_aload_n (pc := 19) B dX8_stepOf_19 rfl ?_
    refine r_ldc (pc := 20) B q836 dX8_stepOf_20 ?_
    refine r_cVi1 (pc := 22) B KX8_39 (e_finds l G _ (j := 0) rfl (by decide)) rfl rfl (by decide) (Nat.le_of_ble_eq_true rfl) dX8_stepOf_22 ?_
    exact r_iret (pc := 25) B R dX8_stepOf_25 (Or.inl ⟨by first | exact fun q => bI_0.mp h4 q.1 | exact fun q => bI_0.mp h16 q.2, rfl, rfl⟩)
  · skip
    obtain ⟨j, hj, hx⟩ := stepP_nI (bI_n.mp h4)
    refine r_iload_n (pc := 7) B dX8_stepOf_7 rfl ?_
    refine r_i2l (pc := 8) B dX8_stepOf_8 ?_
    refine r_lconst (pc := 9) (x := 0) B dX8_stepOf_9 rfl ?_
    refine r_ldc2_w (pc := 10) B q849 dX8_stepOf_10 ?_
    refine r_cSi3 (pc := 13) B KX8_49 (e_isIn l G _ _ (v := a) (a := 0) (b := 4) rfl rfl rfl) (by decide) (Nat.le_of_ble_eq_true rfl) dX8_stepOf_13 ?_
    refine r_if_ne (pc := 16) B 26 dX8_stepOf_16 (by decide) (fun h16 => ?_) (fun h16 => ?_)
    · skip
      obtain ⟨k, hk, ha⟩ := wi_nI (g := 4) (by decide) (bI_n.mp h16)
      refine r_iload_n (pc := 26) B dX8_stepOf_26 rfl ?_
      refine r_iconst (pc := 27) (x := 3) B dX8_stepOf_27 (by decide) ?_
      refine r_icmp_ge (pc := 28) B 47 dX8_stepOf_28 (by decide) (fun h28 => ?_) (fun h28 => ?_)
      · skip
        have k3 : 3 ≤ k := (nI_leI (a := 3) (by omega) (by omega)).mp (by rw [ha] at h28; exact h28)
        refine r_iload_n (pc := 47) B dX8_stepOf_47 rfl ?_
        refine r_iconst (pc := 48) (x := 3) B dX8_stepOf_48 (by decide) ?_
        refine r_icmp_ne (pc := 49) B 60 dX8_stepOf_49 (by decide) (fun h49 => ?_) (fun h49 => ?_)
        · skip
          have k4 : ¬ k = 3 := fun q => h49 (by rw [ha, q]; rfl)
          refine r_aload_n (pc := 60) B dX8_stepOf_60 rfl ?_
          refine r_iload_n (pc := 61) B dX8_stepOf_61 rfl ?_
          rw [hx]
          refine r_cVi1 (pc := 62) B KX8_67 (e_there l G _ hN8 hN _) rfl rfl (by decide) (Nat.le_of_ble_eq_true rfl) dX8_stepOf_62 ?_
          exact r_iret (pc := 65) B R dX8_stepOf_65 (Or.inr ⟨j, k, hj, by omega, hx, ha, rfl, by first | rw [if_pos k3] | rw [if_neg (by omega), if_pos k4] | rw [if_neg (by omega), if_neg k4]⟩)
        · skip
          have k4 : k = 3 := (nI_eq (by omega) (by omega)).mp (ha.symm.trans h49)
          refine r_aload_n (pc := 52) B dX8_stepOf_52 rfl ?_
          refine r_iload_n (pc := 53) B dX8_stepOf_53 rfl ?_
          refine r_cVi1 (pc := 54) B KX8_64 (e_wind l G _ hx hj) rfl rfl (by decide) (Nat.le_of_ble_eq_true rfl) dX8_stepOf_54 ?_
          refine r_goto (pc := 57) B 65 dX8_stepOf_57 (by decide) ?_
          exact r_iret (pc := 65) B R dX8_stepOf_65 (Or.inr ⟨j, k, hj, by omega, hx, ha, rfl, by first | rw [if_pos k3] | rw [if_neg (by omega), if_pos k4] | rw [if_neg (by omega), if_neg k4]⟩)
      · skip
        have k3 : k < 3 := by rcases Nat.lt_or_ge k 3 with q | q; exact q; exact absurd (by rw [ha]; exact (nI_leI (a := 3) (by omega) (by omega)).mpr q) h28
        refine r_aload_n (pc := 31) B dX8_stepOf_31 rfl ?_
        refine r_getr (pc := 32) B FX8_7 rfl rfl dX8_stepOf_32 ?_
        refine r_iconst (pc := 35) (x := 5) B dX8_stepOf_35 (by decide) ?_
        refine r_bipush (pc := 36) (x := 16) B dX8_stepOf_36 (by decide) ?_
        refine r_iload_n (pc := 38) B dX8_stepOf_38 rfl ?_
        refine r_imul (pc := 39) B dX8_stepOf_39 ?_
        refine r_iadd (pc := 40) B dX8_stepOf_40 ?_
        refine r_iload_n (pc := 41) B dX8_stepOf_41 rfl ?_
        refine r_iadd (pc := 42) B dX8_stepOf_42 ?_
        refine r_iald (pc := 43) B rfl (ix_eq (by rw [ha, hx]; exact st_ix k k3 j hj) (by omega) (by decide)) dX8_stepOf_43 ?_
        refine r_goto (pc := 44) B 65 dX8_stepOf_44 (by decide) ?_
        exact r_iret (pc := 65) B R dX8_stepOf_65 (Or.inr ⟨j, k, hj, by omega, hx, ha, rfl, by first | rw [if_pos k3] | rw [if_neg (by omega), if_pos k4] | rw [if_neg (by omega), if_neg k4]⟩)
    · skip
      refine r_aload_n (pc := 19) B dX8_stepOf_19 rfl ?_
      refine r_ldc (pc := 20) B q836 dX8_stepOf_20 ?_
      refine r_cVi1 (pc := 22) B KX8_39 (e_finds l G _ (j := 0) rfl (by decide)) rfl rfl (by decide) (Nat.le_of_ble_eq_true rfl) dX8_stepOf_22 ?_
      exact r_iret (pc := 25) B R dX8_stepOf_25 (Or.inl ⟨by first | exact fun q => bI_0.mp h4 q.1 | exact fun q => bI_0.mp h16 q.2, rfl, rfl⟩)
set_option maxHeartbeats 4000000 in
set_option maxRecDepth 20000 in
theorem e_weather (l : Launch) (G : GG) (σ : Sg) (a v : Int32) : Ct l G mX8_weather 1 shT [.ref (ad G 65), .int a, .int v] σ (fun r τ => (¬ (withinP a 1 ∧ withinP v 99) ∧ gQ σ 0 r τ) ∨ ∃ k, k < 2 ∧ a = nI k ∧ withinP v 99 ∧ r = some (.int (σ 66 (3 + k))) ∧ τ = sR σ (upd (σ 66) (3 + k) v)) := by
  refine ct_intro (by decide) (Nat.le_of_ble_eq_true rfl) (fun X B R => ?_)
  show V X G shT σ [some (.ref (ad G 65)), some (.int a), some (.int v)] [] 0
  refine r_iload_n (pc := 0) B dX8_weather_0 rfl ?_
  refine r_i2l (pc := 1) B dX8_weather_1 ?_
  refine r_lconst (pc := 2) (x := 0) B dX8_weather_2 rfl ?_
  refine r_lconst (pc := 3) (x := 1) B dX8_weather_3 rfl ?_
  refine r_cSi3 (pc := 4) B KX8_49 (e_isIn l G _ _ (v := a) (a := 0) (b := 1) rfl rfl rfl) (by decide) (Nat.le_of_ble_eq_true rfl) dX8_weather_4 ?_
  refine r_if_eq (pc := 7) B 33 dX8_weather_7 (by decide) (fun h7 => ?_) (fun h7 => ?_)
  · skip
    refine r_aload_n (pc := 33) B dX8_weather_33 rfl ?_
    refine r_ldc (pc := 34) B q836 dX8_weather_34 ?_
    refine r_cVi1 (pc := 36) B KX8_39 (e_finds l G _ (j := 0) rfl (by decide)) rfl rfl (by decide) (Nat.le_of_ble_eq_true rfl) dX8_weather_36 ?_
    exact r_iret (pc := 39) B R dX8_weather_39 (by first | exact Or.inl ⟨fun q => bI_0.mp h7 q.1, rfl, rfl⟩ | exact Or.inl ⟨fun q => bI_0.mp h19 q.2, rfl, rfl⟩ | exact Or.inr ⟨k, by omega, ha, bI_n.mp h19, rfl, rfl⟩)
  · skip
    obtain ⟨k, hk, ha⟩ := wi_nI (g := 1) (by decide) (bI_n.mp h7)
    refine r_iload_n (pc := 10) B dX8_weather_10 rfl ?_
    refine r_i2l (pc := 11) B dX8_weather_11 ?_
    refine r_lconst (pc := 12) (x := 0) B dX8_weather_12 rfl ?_
    refine r_ldc2_w (pc := 13) B q835 dX8_weather_13 ?_
    refine r_cSi3 (pc := 16) B KX8_49 (e_isIn l G _ _ (v := v) (a := 0) (b := 99) rfl rfl rfl) (by decide) (Nat.le_of_ble_eq_true rfl) dX8_weather_16 ?_
    refine r_if_eq (pc := 19) B 33 dX8_weather_19 (by decide) (fun h19 => ?_) (fun h19 => ?_)
    · skip
      refine r_aload_n (pc := 33) B dX8_weather_33 rfl ?_
      refine r_ldc (pc := 34) B q836 dX8_weather_34 ?_
      refine r_cVi1 (pc := 36) B KX8_39 (e_finds l G _ (j := 0) rfl (by decide)) rfl rfl (by decide) (Nat.le_of_ble_eq_true rfl) dX8_weather_36 ?_
      exact r_iret (pc := 39) B R dX8_weather_39 (by first | exact Or.inl ⟨fun q => bI_0.mp h7 q.1, rfl, rfl⟩ | exact Or.inl ⟨fun q => bI_0.mp h19 q.2, rfl, rfl⟩ | exact Or.inr ⟨k, by omega, ha, bI_n.mp h19, rfl, rfl⟩)
    · skip
      refine r_aload_n (pc := 22) B dX8_weather_22 rfl ?_
      refine r_iconst (pc := 23) (x := 3) B dX8_weather_23 (by decide) ?_
      refine r_iload_n (pc := 24) B dX8_weather_24 rfl ?_
      refine r_iadd (pc := 25) B dX8_weather_25 ?_
      refine r_iload_n (pc := 26) B dX8_weather_26 rfl ?_
      refine r_cVi2 (pc := 27) B KX8_55 (e_becomes l G _ (m := 3 + k) (by rw [ha]; exact pl_nI (n := 3) rfl) (by omega) _) rfl rfl (by decide) (Nat.le_of_ble_eq_true rfl) dX8_weather_27 ?_
      refine r_goto (pc := 30) B 39 dX8_weather_30 (by decide) ?_
      exact r_iret (pc := 39) B R dX8_weather_39 (by first | exact Or.inl ⟨fun q => bI_0.mp h7 q.1, rfl, rfl⟩ | exact Or.inl ⟨fun q => bI_0.mp h19 q.2, rfl, rfl⟩ | exact Or.inr ⟨k, by omega, ha, bI_n.mp h19, rfl, rfl⟩)
def clU (w : Nat → Int32) (n i : Nat) : Nat → Int32 := fun k => if 53 + 8 * n ≤ k ∧ k < 53 + 8 * n + i then 0 else w k
theorem clU_s (w : Nat → Int32) (n i : Nat) : upd (clU w n i) (53 + 8 * n + i) 0 = clU w n (i + 1) := by
  funext k
  unfold upd clU
  by_cases h : k = 53 + 8 * n + i
  · rw [if_pos h, if_pos (by omega)]
  · rw [if_neg h]
    by_cases q : 53 + 8 * n ≤ k ∧ k < 53 + 8 * n + i
    · rw [if_pos q, if_pos (by omega)]
    · rw [if_neg q, if_neg (by omega)]
theorem clU_n (w : Nat → Int32) (n : Nat) (kd : Int32) : upd (upd (clU w n 8) (53 + 8 * n + 0) kd) (53 + 8 * n + 4) 8 = putU w n (newU kd) := by
  funext k
  unfold upd clU putU newU
  grind
theorem clU_lo (w : Nat → Int32) (n i : Nat) : clU w n i 0 = w 0 := by unfold clU; rw [if_neg (by omega)]
def cmR (w : Nat → Int32) (n : Nat) (kd : Int32) : Nat → Int32 := upd (putU w n (newU kd)) 0 (nI (n + 1))
theorem putU_lo (w f : Nat → Int32) (n k : Nat) (h : k < 53) : putU w n f k = w k := by unfold putU; rw [if_neg (by omega)]

set_option maxHeartbeats 4000000 in
set_option maxRecDepth 20000 in
theorem e_comes (l : Launch) (G : GG) (σ : Sg) {n : Nat} (hn : n < 8) (h0 : σ 66 0 = nI n) (kd : Int32) : CtV l G mX8_comes 1 shT [.ref (ad G 65), .int kd] σ (sR σ (cmR (σ 66) n kd)) := by
  refine ct_intro (by decide) (Nat.le_of_ble_eq_true rfl) (fun X B R => ?_)
  show V X G shT σ [some (.ref (ad G 65)), some (.int kd), none] [] 0
  refine r_iconst (pc := 0) (x := 0) B dX8_comes_0 (by decide) ?_
  refine r_istore_2 (pc := 1) B dX8_comes_1 (by decide) rfl ?_
  have hL2 : ∀ (p i : Nat), i ≤ 8 → 9 ≤ i + p → V X G shT (sR σ (clU (σ 66) n i)) [some (.ref (ad G 65)), some (.int kd), some (.int (nI i))] [] 2 := by
    intro p
    induction p with
    | zero => intro i h1 h2; omega
    | succ p ih =>
      intro i hi hp
      refine r_iload_n (pc := 2) B dX8_comes_2 rfl ?_
      refine r_bipush (pc := 3) (x := 8) B dX8_comes_3 (by decide) ?_
      refine r_icmp_ge (pc := 5) B 30 dX8_comes_5 (by decide) (fun h5 => ?_) (fun h5 => ?_)
      · skip
        have eN : i = 8 := by have := nI_ge_of (n := 8) (by omega) (by omega) h5; omega
        subst eN
        refine r_aload_n (pc := 30) B dX8_comes_30 rfl ?_
        refine r_getr (pc := 31) B FX8_7 rfl rfl dX8_comes_31 ?_
        refine r_aload_n (pc := 34) B dX8_comes_34 rfl ?_
        refine r_getr (pc := 35) B FX8_7 rfl rfl dX8_comes_35 ?_
        refine r_iconst (pc := 38) (x := 0) B dX8_comes_38 (by decide) ?_
        refine r_iald (pc := 39) B rfl (ix_of 0 rfl) dX8_comes_39 ?_
        rw [show sR σ (clU (σ 66) n 8) 66 0 = nI n by rw [sR_66, clU_lo]; exact h0]
        refine r_iconst (pc := 40) (x := 0) B dX8_comes_40 (by decide) ?_
        refine r_cSi2 (pc := 41) B KX8_70 (e_at l G _ _ (i := 0) rfl rfl hn (by decide)) (by decide) (Nat.le_of_ble_eq_true rfl) dX8_comes_41 ?_
        refine r_iload_n (pc := 44) B dX8_comes_44 rfl ?_
        refine r_iast (pc := 45) B rfl (ix_nI (by omega) (by decide)) dX8_comes_45 ?_
        rw [st2_66, sR_sR, sR_66]
        refine r_aload_n (pc := 46) B dX8_comes_46 rfl ?_
        refine r_getr (pc := 47) B FX8_7 rfl rfl dX8_comes_47 ?_
        refine r_aload_n (pc := 50) B dX8_comes_50 rfl ?_
        refine r_getr (pc := 51) B FX8_7 rfl rfl dX8_comes_51 ?_
        refine r_iconst (pc := 54) (x := 0) B dX8_comes_54 (by decide) ?_
        refine r_iald (pc := 55) B rfl (ix_of 0 rfl) dX8_comes_55 ?_
        rw [show sR σ (upd (clU (σ 66) n 8) (53 + 8 * n + 0) kd) 66 0 = nI n by rw [sR_66, upd, if_neg (by omega), clU_lo]; exact h0]
        refine r_iconst (pc := 56) (x := 4) B dX8_comes_56 (by decide) ?_
        refine r_cSi2 (pc := 57) B KX8_70 (e_at l G _ _ (i := 4) rfl rfl hn (by decide)) (by decide) (Nat.le_of_ble_eq_true rfl) dX8_comes_57 ?_
        refine r_bipush (pc := 60) (x := 8) B dX8_comes_60 (by decide) ?_
        refine r_iast (pc := 62) B rfl (ix_nI (by omega) (by decide)) dX8_comes_62 ?_
        rw [st2_66, sR_sR, sR_66, clU_n]
        refine r_aload_n (pc := 63) B dX8_comes_63 rfl ?_
        refine r_getr (pc := 64) B FX8_7 rfl rfl dX8_comes_64 ?_
        refine r_iconst (pc := 67) (x := 0) B dX8_comes_67 (by decide) ?_
        refine r_dup2 (pc := 68) B rfl rfl dX8_comes_68 ?_
        refine r_iald (pc := 69) B rfl (ix_of 0 rfl) dX8_comes_69 ?_
        rw [show sR σ (putU (σ 66) n (newU kd)) 66 0 = nI n by rw [sR_66, putU_lo _ _ _ _ (by omega)]; exact h0]
        refine r_iconst (pc := 70) (x := 1) B dX8_comes_70 (by decide) ?_
        refine r_iadd (pc := 71) B dX8_comes_71 ?_
        refine r_iast (pc := 72) B rfl (ix_of 0 rfl) dX8_comes_72 ?_
        rw [st2_66, sR_sR, sR_66, nI_1]
        exact r_vret (pc := 73) B R dX8_comes_73 ⟨rfl, rfl⟩
      · skip
        have hiN : i < 8 := nI_lt_of (n := 8) (by omega) (by omega) h5
        refine r_aload_n (pc := 8) B dX8_comes_8 rfl ?_
        refine r_getr (pc := 9) B FX8_7 rfl rfl dX8_comes_9 ?_
        refine r_aload_n (pc := 12) B dX8_comes_12 rfl ?_
        refine r_getr (pc := 13) B FX8_7 rfl rfl dX8_comes_13 ?_
        refine r_iconst (pc := 16) (x := 0) B dX8_comes_16 (by decide) ?_
        refine r_iald (pc := 17) B rfl (ix_of 0 rfl) dX8_comes_17 ?_
        rw [show sR σ (clU (σ 66) n i) 66 0 = nI n by rw [sR_66, clU_lo]; exact h0]
        refine r_iload_n (pc := 18) B dX8_comes_18 rfl ?_
        refine r_cSi2 (pc := 19) B KX8_70 (e_at l G _ _ rfl rfl hn hiN) (by decide) (Nat.le_of_ble_eq_true rfl) dX8_comes_19 ?_
        refine r_iconst (pc := 22) (x := 0) B dX8_comes_22 (by decide) ?_
        refine r_iast (pc := 23) B rfl (ix_nI (by omega) (by decide)) dX8_comes_23 ?_
        rw [st2_66, sR_sR, sR_66, clU_s]
        refine r_iinc_2 (pc := 24) (y := _ + 1) B dX8_comes_24 rfl (by decide) rfl ?_
        refine r_goto (pc := 27) B 2 dX8_comes_27 (by decide) ?_
        rw [nI_1]
        exact ih (i + 1) hiN (by omega)
  rw [← sR_self σ, show σ 66 = clU (σ 66) n 0 by funext k; unfold clU; rw [if_neg (by omega)]]
  exact hL2 9 0 (by omega) (by omega)
set_option maxHeartbeats 4000000 in
set_option maxRecDepth 20000 in
theorem e_umbrella (l : Launch) (G : GG) (σ : Sg) {N : Nat} (hN8 : N ≤ 8) (hN : σ 66 0 = nI N) (k : Int32) : Ct l G mX8_umbrella 2 shT [.ref (ad G 65), .int k] σ (fun r τ => (¬ withinP k 6 ∧ gQ σ 0 r τ) ∨ (withinP k 6 ∧ N = 8 ∧ gQ σ 1 r τ) ∨ (withinP k 6 ∧ N < 8 ∧ r = some (.int (nI N)) ∧ τ = sR σ (cmR (σ 66) N k))) := by
  refine ct_intro (by decide) (Nat.le_of_ble_eq_true rfl) (fun X B R => ?_)
  show V X G shT σ [some (.ref (ad G 65)), some (.int k)] [] 0
  refine r_iload_n (pc := 0) B dX8_umbrella_0 rfl ?_
  refine r_i2l (pc := 1) B dX8_umbrella_1 ?_
  refine r_lconst (pc := 2) (x := 0) B dX8_umbrella_2 rfl ?_
  refine r_ldc2_w (pc := 3) B q870 dX8_umbrella_3 ?_
  refine r_cSi3 (pc := 6) B KX8_49 (e_isIn l G _ _ (v := k) (a := 0) (b := 6) rfl rfl rfl) (by decide) (Nat.le_of_ble_eq_true rfl) dX8_umbrella_6 ?_
  refine r_if_ne (pc := 9) B 19 dX8_umbrella_9 (by decide) (fun h9 => ?_) (fun h9 => ?_)
  · skip
    refine r_aload_n (pc := 19) B dX8_umbrella_19 rfl ?_
    refine r_getr (pc := 20) B FX8_7 rfl rfl dX8_umbrella_20 ?_
    refine r_iconst (pc := 23) (x := 0) B dX8_umbrella_23 (by decide) ?_
    refine r_iald (pc := 24) B rfl (ix_of 0 rfl) dX8_umbrella_24 ?_
    rw [hN]
    refine r_bipush (pc := 25) (x := 8) B dX8_umbrella_25 (by decide) ?_
    refine r_icmp_ne (pc := 27) B 37 dX8_umbrella_27 (by decide) (fun h27 => ?_) (fun h27 => ?_)
    · skip
      have h8 : N < 8 := by rcases Nat.lt_or_ge N 8 with q | q; exact q; exact absurd (by rw [show N = 8 by omega]; rfl) h27
      refine r_aload_n (pc := 37) B dX8_umbrella_37 rfl ?_
      refine r_iload_n (pc := 38) B dX8_umbrella_38 rfl ?_
      refine r_cVv1 (pc := 39) B KX8_76 (e_comes l G _ h8 hN _) rfl rfl (by decide) (Nat.le_of_ble_eq_true rfl) dX8_umbrella_39 ?_
      refine r_aload_n (pc := 42) B dX8_umbrella_42 rfl ?_
      refine r_getr (pc := 43) B FX8_7 rfl rfl dX8_umbrella_43 ?_
      refine r_iconst (pc := 46) (x := 0) B dX8_umbrella_46 (by decide) ?_
      refine r_iald (pc := 47) B rfl (ix_of 0 rfl) dX8_umbrella_47 ?_
      rw [show sR σ (cmR (σ 66) N k) 66 0 = nI (N + 1) by rw [sR_66, cmR, upd, if_pos rfl]]
      refine r_iconst (pc := 48) (x := 1) B dX8_umbrella_48 (by decide) ?_
      refine r_isub (pc := 49) B dX8_umbrella_49 ?_
      exact r_iret (pc := 50) B R dX8_umbrella_50 (Or.inr (Or.inr ⟨bI_n.mp h9, h8, by rw [← nI_1, Int32.add_sub_cancel], rfl⟩))
    · skip
      refine r_aload_n (pc := 30) B dX8_umbrella_30 rfl ?_
      refine r_ldc (pc := 31) B q871 dX8_umbrella_31 ?_
      refine r_cVi1 (pc := 33) B KX8_39 (e_finds l G _ (j := 1) rfl (by decide)) rfl rfl (by decide) (Nat.le_of_ble_eq_true rfl) dX8_umbrella_33 ?_
      exact r_iret (pc := 36) B R dX8_umbrella_36 (Or.inr (Or.inl ⟨bI_n.mp h9, (nI_eq (b := 8) (by omega) (by omega)).mp h27, rfl, rfl⟩))
  · skip
    refine r_aload_n (pc := 12) B dX8_umbrella_12 rfl ?_
    refine r_ldc (pc := 13) B q836 dX8_umbrella_13 ?_
    refine r_cVi1 (pc := 15) B KX8_39 (e_finds l G _ (j := 0) rfl (by decide)) rfl rfl (by decide) (Nat.le_of_ble_eq_true rfl) dX8_umbrella_15 ?_
    exact r_iret (pc := 18) B R dX8_umbrella_18 (Or.inl ⟨fun q => bI_0.mp h9 q, rfl, rfl⟩)
def ofR (w : Nat → Int32) (u k : Nat) : Int32 := if k = 8 then stiffF (um w u) else if k = 9 then covF (w 3) (w 1) (um w u 0) (um w u 7) else if k = 10 then paceF (w 1) (um w u 0) else w (53 + 8 * u + k)

set_option maxHeartbeats 4000000 in
set_option maxRecDepth 20000 in
theorem e_of (l : Launch) (G : GG) (σ : Sg) {N : Nat} (hN8 : N ≤ 8) (hN : σ 66 0 = nI N) (hW : WR (σ 66)) (x a : Int32) : Ct l G mX8_of 2 shT [.ref (ad G 65), .int x, .int a] σ (fun r τ => (¬ (umR σ x ∧ withinP a 10) ∧ gQ σ 0 r τ) ∨ ∃ u k, u < N ∧ k < 11 ∧ x = nI u ∧ a = nI k ∧ τ = σ ∧ r = some (.int (ofR (σ 66) u k))) := by
  refine ct_intro (by decide) (Nat.le_of_ble_eq_true rfl) (fun X B R => ?_)
  show V X G shT σ [some (.ref (ad G 65)), some (.int x), some (.int a)] [] 0
  refine r_aload_n (pc := 0) B dX8_of_0 rfl ?_
  refine r_iload_n (pc := 1) B dX8_of_1 rfl ?_
  refine r_cVi1 (pc := 2) B KX8_89 (e_isUmbrella l G _ _) rfl rfl (by decide) (Nat.le_of_ble_eq_true rfl) dX8_of_2 ?_
  refine r_if_eq (pc := 5) B 20 dX8_of_5 (by decide) (fun h5 => ?_) (fun h5 => ?_)
  · skip
    refine r_aload_n (pc := 20) B dX8_of_20 rfl ?_
    refine r_ldc (pc := 21) B q836 dX8_of_21 ?_
    refine r_cVi1 (pc := 23) B KX8_39 (e_finds l G _ (j := 0) rfl (by decide)) rfl rfl (by decide) (Nat.le_of_ble_eq_true rfl) dX8_of_23 ?_
    exact r_iret (pc := 26) B R dX8_of_26 (Or.inl ⟨by first | exact fun q => bI_0.mp h5 q.1 | exact fun q => bI_0.mp h17 q.2, rfl, rfl⟩)
  · skip
    obtain ⟨u, hu1, hu2⟩ := um_nR hN8 hN (bI_n.mp h5)
    have hu8 : u < 8 := by omega
    refine r_iload_n (pc := 8) B dX8_of_8 rfl ?_
    refine r_i2l (pc := 9) B dX8_of_9 ?_
    refine r_lconst (pc := 10) (x := 0) B dX8_of_10 rfl ?_
    refine r_ldc2_w (pc := 11) B q887 dX8_of_11 ?_
    refine r_cSi3 (pc := 14) B KX8_49 (e_isIn l G _ _ (v := a) (a := 0) (b := 10) rfl rfl rfl) (by decide) (Nat.le_of_ble_eq_true rfl) dX8_of_14 ?_
    refine r_if_ne (pc := 17) B 27 dX8_of_17 (by decide) (fun h17 => ?_) (fun h17 => ?_)
    · skip
      obtain ⟨k, hk, ha⟩ := wi_nI (g := 10) (by decide) (bI_n.mp h17)
      refine r_iload_n (pc := 27) B dX8_of_27 rfl ?_
      refine r_tsC (pc := 28) B 8 56 dX8_of_28 (by decide) (by decide) rfl (by decide) (fun h28_8 => ?_) (fun h28_8 => ?_)
      · skip
        refine r_aload_n (pc := 56) B dX8_of_56 rfl ?_
        refine r_iload_n (pc := 57) B dX8_of_57 rfl ?_
        refine r_cVi1 (pc := 58) B KX8_83 (e_stiff l G _ hu2 hu8) rfl rfl (by decide) (Nat.le_of_ble_eq_true rfl) dX8_of_58 ?_
        exact r_iret (pc := 61) B R dX8_of_61 (Or.inr ⟨u, 8, hu1, by omega, hu2, h28_8, rfl, rfl⟩)
      refine r_tsC (pc := 28) B 9 62 dX8_of_28 (by decide) (by decide) rfl (by decide) (fun h28_9 => ?_) (fun h28_9 => ?_)
      · skip
        refine r_aload_n (pc := 62) B dX8_of_62 rfl ?_
        refine r_iload_n (pc := 63) B dX8_of_63 rfl ?_
        refine r_cVi1 (pc := 64) B KX8_94 (e_covers l G _ hu2 hu8 hW.1) rfl rfl (by decide) (Nat.le_of_ble_eq_true rfl) dX8_of_64 ?_
        exact r_iret (pc := 67) B R dX8_of_67 (Or.inr ⟨u, 9, hu1, by omega, hu2, h28_9, rfl, rfl⟩)
      refine r_tsC (pc := 28) B 10 68 dX8_of_28 (by decide) (by decide) rfl (by decide) (fun h28_10 => ?_) (fun h28_10 => ?_)
      · skip
        refine r_aload_n (pc := 68) B dX8_of_68 rfl ?_
        refine r_iload_n (pc := 69) B dX8_of_69 rfl ?_
        refine r_cVi1 (pc := 70) B KX8_97 (e_pace l G _ hu2 hu8) rfl rfl (by decide) (Nat.le_of_ble_eq_true rfl) dX8_of_70 ?_
        exact r_iret (pc := 73) B R dX8_of_73 (Or.inr ⟨u, 10, hu1, by omega, hu2, h28_10, rfl, rfl⟩)
      refine r_tsD (pc := 28) B 74 dX8_of_28 (by have e0 := ts_in (c := 8) h28_8 rfl; have e1 := ts_in (c := 9) h28_9 rfl; have e2 := ts_in (c := 10) h28_10 rfl; omega) (by decide) ?_
      have k8 : k < 8 := by
        have n8 : ¬ k = 8 := fun q => h28_8 (by rw [ha, q]; rfl)
        have n9 : ¬ k = 9 := fun q => h28_9 (by rw [ha, q]; rfl)
        have n10 : ¬ k = 10 := fun q => h28_10 (by rw [ha, q]; rfl)
        omega
      refine r_aload_n (pc := 74) B dX8_of_74 rfl ?_
      refine r_iload_n (pc := 75) B dX8_of_75 rfl ?_
      refine r_iload_n (pc := 76) B dX8_of_76 rfl ?_
      refine r_cVi2 (pc := 77) B KX8_59 (e_its l G _ (i := k) hu2 ha hu8 k8) rfl rfl (by decide) (Nat.le_of_ble_eq_true rfl) dX8_of_77 ?_
      exact r_iret (pc := 80) B R dX8_of_80 (Or.inr ⟨u, k, hu1, by omega, hu2, ha, rfl, by unfold ofR; rw [if_neg (by omega), if_neg (by omega), if_neg (by omega)]⟩)
    · skip
      refine r_aload_n (pc := 20) B dX8_of_20 rfl ?_
      refine r_ldc (pc := 21) B q836 dX8_of_21 ?_
      refine r_cVi1 (pc := 23) B KX8_39 (e_finds l G _ (j := 0) rfl (by decide)) rfl rfl (by decide) (Nat.le_of_ble_eq_true rfl) dX8_of_23 ?_
      exact r_iret (pc := 26) B R dX8_of_26 (Or.inl ⟨by first | exact fun q => bI_0.mp h5 q.1 | exact fun q => bI_0.mp h17 q.2, rfl, rfl⟩)
set_option maxHeartbeats 4000000 in
set_option maxRecDepth 20000 in
theorem e_change (l : Launch) (G : GG) (σ : Sg) {N : Nat} (hN8 : N ≤ 8) (hN : σ 66 0 = nI N) (x a v : Int32) : Ct l G mX8_change 1 shT [.ref (ad G 65), .int x, .int a, .int v] σ (fun r τ => (¬ (umR σ x ∧ withinP a 7 ∧ withinP v (gK a.toNatClampNeg)) ∧ gQ σ 0 r τ) ∨ ∃ u k, u < N ∧ k < 8 ∧ x = nI u ∧ a = nI k ∧ withinP v (gK k) ∧ r = some (.int (σ 66 (53 + 8 * u + k))) ∧ τ = sR σ (upd (σ 66) (53 + 8 * u + k) v)) := by
  refine ct_intro (by decide) (Nat.le_of_ble_eq_true rfl) (fun X B R => ?_)
  show V X G shT σ [some (.ref (ad G 65)), some (.int x), some (.int a), some (.int v), none] [] 0
  have hJ39 : ∀ z : Int32, ((z = 1 ∧ (umR σ x ∧ withinP a 7 ∧ withinP v (gK a.toNatClampNeg))) ∨ (z = 0 ∧ ¬ (umR σ x ∧ withinP a 7 ∧ withinP v (gK a.toNatClampNeg)))) → V X G shT σ [some (.ref (ad G 65)), some (.int x), some (.int a), some (.int v), none] [.int z] 39 := by
    intro z hz
    refine r_istore_4 (pc := 39) B dX8_change_39 (by decide) rfl ?_
    refine r_iload (pc := 41) B dX8_change_41 rfl ?_
    refine r_if_eq (pc := 43) B 59 dX8_change_43 (by decide) (fun h43 => ?_) (fun h43 => ?_)
    · skip
      have hn := hz.elim (fun q => absurd (q.1.symm.trans h43) (by decide)) (fun q => q.2)
      refine r_aload_n (pc := 59) B dX8_change_59 rfl ?_
      refine r_ldc (pc := 60) B q836 dX8_change_60 ?_
      refine r_cVi1 (pc := 62) B KX8_39 (e_finds l G _ (j := 0) rfl (by decide)) rfl rfl (by decide) (Nat.le_of_ble_eq_true rfl) dX8_change_62 ?_
      exact r_iret (pc := 65) B R dX8_change_65 (by first | exact Or.inr ⟨u, k, hu1, by omega, hu2, ha, hv, rfl, rfl⟩ | exact Or.inl ⟨hn, rfl, rfl⟩)
    · skip
      have hy := hz.elim (fun q => q.2) (fun q => absurd q.1 h43)
      obtain ⟨u, hu1, hu2⟩ := um_nR hN8 hN hy.1
      obtain ⟨k, hk, ha⟩ := wi_nI (g := 7) (by decide) hy.2.1
      have hv := hy.2.2
      rw [ha, nI_clamp (by omega)] at hv
      refine r_aload_n (pc := 46) B dX8_change_46 rfl ?_
      refine r_iload_n (pc := 47) B dX8_change_47 rfl ?_
      refine r_iload_n (pc := 48) B dX8_change_48 rfl ?_
      refine r_cSi2 (pc := 49) B KX8_70 (e_at l G _ _ (u := u) (i := k) hu2 ha (by omega) (by omega)) (by decide) (Nat.le_of_ble_eq_true rfl) dX8_change_49 ?_
      refine r_iload_n (pc := 52) B dX8_change_52 rfl ?_
      refine r_cVi2 (pc := 53) B KX8_55 (e_becomes l G _ (m := 53 + 8 * u + k) rfl (by omega) _) rfl rfl (by decide) (Nat.le_of_ble_eq_true rfl) dX8_change_53 ?_
      refine r_goto (pc := 56) B 65 dX8_change_56 (by decide) ?_
      exact r_iret (pc := 65) B R dX8_change_65 (by first | exact Or.inr ⟨u, k, hu1, by omega, hu2, ha, hv, rfl, rfl⟩ | exact Or.inl ⟨hn, rfl, rfl⟩)
  refine r_aload_n (pc := 0) B dX8_change_0 rfl ?_
  refine r_iload_n (pc := 1) B dX8_change_1 rfl ?_
  refine r_cVi1 (pc := 2) B KX8_89 (e_isUmbrella l G _ _) rfl rfl (by decide) (Nat.le_of_ble_eq_true rfl) dX8_change_2 ?_
  refine r_if_eq (pc := 5) B 38 dX8_change_5 (by decide) (fun h5 => ?_) (fun h5 => ?_)
  · skip
    refine r_iconst (pc := 38) (x := 0) B dX8_change_38 (by decide) ?_
    exact hJ39 _ (by first | exact Or.inr ⟨rfl, fun q => bI_0.mp h5 q.1⟩ | exact Or.inr ⟨rfl, fun q => bI_0.mp h17 q.2.1⟩ | exact Or.inr ⟨rfl, fun q => bI_0.mp h31 (by rw [ek]; exact q.2.2)⟩ | exact Or.inl ⟨rfl, bI_n.mp h5, bI_n.mp h17, by have q := bI_n.mp h31; rw [ek] at q; exact q⟩)
  · skip
    refine r_iload_n (pc := 8) B dX8_change_8 rfl ?_
    refine r_i2l (pc := 9) B dX8_change_9 ?_
    refine r_lconst (pc := 10) (x := 0) B dX8_change_10 rfl ?_
    refine r_ldc2_w (pc := 11) B q910 dX8_change_11 ?_
    refine r_cSi3 (pc := 14) B KX8_49 (e_isIn l G _ _ (v := a) (a := 0) (b := 7) rfl rfl rfl) (by decide) (Nat.le_of_ble_eq_true rfl) dX8_change_14 ?_
    refine r_if_eq (pc := 17) B 38 dX8_change_17 (by decide) (fun h17 => ?_) (fun h17 => ?_)
    · skip
      refine r_iconst (pc := 38) (x := 0) B dX8_change_38 (by decide) ?_
      exact hJ39 _ (by first | exact Or.inr ⟨rfl, fun q => bI_0.mp h5 q.1⟩ | exact Or.inr ⟨rfl, fun q => bI_0.mp h17 q.2.1⟩ | exact Or.inr ⟨rfl, fun q => bI_0.mp h31 (by rw [ek]; exact q.2.2)⟩ | exact Or.inl ⟨rfl, bI_n.mp h5, bI_n.mp h17, by have q := bI_n.mp h31; rw [ek] at q; exact q⟩)
    · skip
      obtain ⟨k, hk, ha⟩ := wi_nI (g := 7) (by decide) (bI_n.mp h17)
      have ek : gX a = gK a.toNatClampNeg := by rw [ha, gX_nI k (by omega), nI_clamp (by omega)]
      refine r_iload_n (pc := 20) B dX8_change_20 rfl ?_
      refine r_i2l (pc := 21) B dX8_change_21 ?_
      refine r_lconst (pc := 22) (x := 0) B dX8_change_22 rfl ?_
      refine r_iload_n (pc := 23) B dX8_change_23 rfl ?_
      refine r_cSi1 (pc := 24) B KX8_103 (e_greatestOf l G _ _ _) (by decide) (Nat.le_of_ble_eq_true rfl) dX8_change_24 ?_
      refine r_i2l (pc := 27) B dX8_change_27 ?_
      refine r_cSi3 (pc := 28) B KX8_49 (e_isIn l G _ _ (v := v) (a := 0) (b := (gX a)) rfl rfl rfl) (by decide) (Nat.le_of_ble_eq_true rfl) dX8_change_28 ?_
      refine r_if_eq (pc := 31) B 38 dX8_change_31 (by decide) (fun h31 => ?_) (fun h31 => ?_)
      · skip
        refine r_iconst (pc := 38) (x := 0) B dX8_change_38 (by decide) ?_
        exact hJ39 _ (by first | exact Or.inr ⟨rfl, fun q => bI_0.mp h5 q.1⟩ | exact Or.inr ⟨rfl, fun q => bI_0.mp h17 q.2.1⟩ | exact Or.inr ⟨rfl, fun q => bI_0.mp h31 (by rw [ek]; exact q.2.2)⟩ | exact Or.inl ⟨rfl, bI_n.mp h5, bI_n.mp h17, by have q := bI_n.mp h31; rw [ek] at q; exact q⟩)
      · skip
        refine r_iconst (pc := 34) (x := 1) B dX8_change_34 (by decide) ?_
        refine r_goto (pc := 35) B 39 dX8_change_35 (by decide) ?_
        exact hJ39 _ (by first | exact Or.inr ⟨rfl, fun q => bI_0.mp h5 q.1⟩ | exact Or.inr ⟨rfl, fun q => bI_0.mp h17 q.2.1⟩ | exact Or.inr ⟨rfl, fun q => bI_0.mp h31 (by rw [ek]; exact q.2.2)⟩ | exact Or.inl ⟨rfl, bI_n.mp h5, bI_n.mp h17, by have q := bI_n.mp h31; rw [ek] at q; exact q⟩)
set_option maxHeartbeats 4000000 in
set_option maxRecDepth 20000 in
theorem e_bears (l : Launch) (G : GG) (σ : Sg) {N : Nat} (hN8 : N ≤ 8) (hN : σ 66 0 = nI N) (hW : WR (σ 66)) (x p h : Int32) : Ct l G mX8_bears 3 shT [.ref (ad G 65), .int x, .int p, .int h] σ (fun r τ => (¬ (umR σ x ∧ stepP p ∧ withinP h 2) ∧ gQ σ 0 r τ) ∨ ∃ u j, u < N ∧ j < 16 ∧ x = nI u ∧ p = nI j ∧ withinP h 2 ∧ τ = σ ∧ r = some (.int (bearF (stiffF (um (σ 66) u)) (σ 66 (5 + j)) h))) := by
  refine ct_intro (by decide) (Nat.le_of_ble_eq_true rfl) (fun X B R => ?_)
  show V X G shT σ [some (.ref (ad G 65)), some (.int x), some (.int p), some (.int h)] [] 0
  refine r_aload_n (pc := 0) B dX8_bears_0 rfl ?_
  refine r_iload_n (pc := 1) B dX8_bears_1 rfl ?_
  refine r_cVi1 (pc := 2) B KX8_89 (e_isUmbrella l G _ _) rfl rfl (by decide) (Nat.le_of_ble_eq_true rfl) dX8_bears_2 ?_
  refine r_if_eq (pc := 5) B 37 dX8_bears_5 (by decide) (fun h5 => ?_) (fun h5 => ?_)
  · skip
    refine r_aload_n (pc := 37) B dX8_bears_37 rfl ?_
    refine r_ldc (pc := 38) B q836 dX8_bears_38 ?_
    refine r_cVi1 (pc := 40) B KX8_39 (e_finds l G _ (j := 0) rfl (by decide)) rfl rfl (by decide) (Nat.le_of_ble_eq_true rfl) dX8_bears_40 ?_
    exact r_iret (pc := 43) B R dX8_bears_43 (by first | exact Or.inr ⟨u, j, hu1, hj, hu2, hp, bI_n.mp h24, rfl, rfl⟩ | exact Or.inl ⟨fun q => bI_0.mp h5 q.1, rfl, rfl⟩ | exact Or.inl ⟨fun q => bI_0.mp h12 q.2.1, rfl, rfl⟩ | exact Or.inl ⟨fun q => bI_0.mp h24 q.2.2, rfl, rfl⟩)
  · skip
    obtain ⟨u, hu1, hu2⟩ := um_nR hN8 hN (bI_n.mp h5)
    have hu8 : u < 8 := by omega
    refine r_iload_n (pc := 8) B dX8_bears_8 rfl ?_
    refine r_cSi1 (pc := 9) B KX8_43 (e_isStep l G _ _ _) (by decide) (Nat.le_of_ble_eq_true rfl) dX8_bears_9 ?_
    refine r_if_eq (pc := 12) B 37 dX8_bears_12 (by decide) (fun h12 => ?_) (fun h12 => ?_)
    · skip
      refine r_aload_n (pc := 37) B dX8_bears_37 rfl ?_
      refine r_ldc (pc := 38) B q836 dX8_bears_38 ?_
      refine r_cVi1 (pc := 40) B KX8_39 (e_finds l G _ (j := 0) rfl (by decide)) rfl rfl (by decide) (Nat.le_of_ble_eq_true rfl) dX8_bears_40 ?_
      exact r_iret (pc := 43) B R dX8_bears_43 (by first | exact Or.inr ⟨u, j, hu1, hj, hu2, hp, bI_n.mp h24, rfl, rfl⟩ | exact Or.inl ⟨fun q => bI_0.mp h5 q.1, rfl, rfl⟩ | exact Or.inl ⟨fun q => bI_0.mp h12 q.2.1, rfl, rfl⟩ | exact Or.inl ⟨fun q => bI_0.mp h24 q.2.2, rfl, rfl⟩)
    · skip
      obtain ⟨j, hj, hp⟩ := stepP_nI (bI_n.mp h12)
      refine r_iload_n (pc := 15) B dX8_bears_15 rfl ?_
      refine r_i2l (pc := 16) B dX8_bears_16 ?_
      refine r_lconst (pc := 17) (x := 0) B dX8_bears_17 rfl ?_
      refine r_ldc2_w (pc := 18) B q831 dX8_bears_18 ?_
      refine r_cSi3 (pc := 21) B KX8_49 (e_isIn l G _ _ (v := h) (a := 0) (b := 2) rfl rfl rfl) (by decide) (Nat.le_of_ble_eq_true rfl) dX8_bears_21 ?_
      refine r_if_eq (pc := 24) B 37 dX8_bears_24 (by decide) (fun h24 => ?_) (fun h24 => ?_)
      · skip
        refine r_aload_n (pc := 37) B dX8_bears_37 rfl ?_
        refine r_ldc (pc := 38) B q836 dX8_bears_38 ?_
        refine r_cVi1 (pc := 40) B KX8_39 (e_finds l G _ (j := 0) rfl (by decide)) rfl rfl (by decide) (Nat.le_of_ble_eq_true rfl) dX8_bears_40 ?_
        exact r_iret (pc := 43) B R dX8_bears_43 (by first | exact Or.inr ⟨u, j, hu1, hj, hu2, hp, bI_n.mp h24, rfl, rfl⟩ | exact Or.inl ⟨fun q => bI_0.mp h5 q.1, rfl, rfl⟩ | exact Or.inl ⟨fun q => bI_0.mp h12 q.2.1, rfl, rfl⟩ | exact Or.inl ⟨fun q => bI_0.mp h24 q.2.2, rfl, rfl⟩)
      · skip
        refine r_aload_n (pc := 27) B dX8_bears_27 rfl ?_
        refine r_iload_n (pc := 28) B dX8_bears_28 rfl ?_
        refine r_iload_n (pc := 29) B dX8_bears_29 rfl ?_
        refine r_iload_n (pc := 30) B dX8_bears_30 rfl ?_
        refine r_cVi3 (pc := 31) B KX8_106 (e_bearsOn l G _ hu2 hp hu8 hj (wi_mono (a := 2) (b := 3) (by decide) (by decide) (bI_n.mp h24)) (hW.2.2.1 j hj).1) rfl rfl (by decide) (Nat.le_of_ble_eq_true rfl) dX8_bears_31 ?_
        refine r_goto (pc := 34) B 43 dX8_bears_34 (by decide) ?_
        exact r_iret (pc := 43) B R dX8_bears_43 (by first | exact Or.inr ⟨u, j, hu1, hj, hu2, hp, bI_n.mp h24, rfl, rfl⟩ | exact Or.inl ⟨fun q => bI_0.mp h5 q.1, rfl, rfl⟩ | exact Or.inl ⟨fun q => bI_0.mp h12 q.2.1, rfl, rfl⟩ | exact Or.inl ⟨fun q => bI_0.mp h24 q.2.2, rfl, rfl⟩)
theorem tickV_WR {w : Nat → Int32} (hW : WR w) {N : Nat} (hN : N ≤ 8) : WR (tickV w N) := WR_t (goN_WR hW N hN) (by omega) _
theorem tk_WR {w : Nat → Int32} (hW : WR w) {N : Nat} (hN : N ≤ 8) : ∀ n, WR (tkN w N n)
  | 0 => hW
  | n + 1 => tickV_WR (tk_WR hW hN n) hN
theorem tickV_1 {w : Nat → Int32} {N t : Nat} (h1 : w 1 = nI t) (ht : t < 99999) : tickV w N 1 = nI (t + 1) := by
  rw [tickV, upd, if_pos rfl, goN_lo (by omega), h1, mn_tk ht, nI_1]
theorem tk_1 {w : Nat → Int32} {N t : Nat} (h1 : w 1 = nI t) : ∀ n, t + n ≤ 99999 → tkN w N n 1 = nI (t + n)
  | 0, _ => h1
  | n + 1, h => tickV_1 (t := t + n) (tk_1 h1 n (by omega)) (by omega)

set_option maxHeartbeats 4000000 in
set_option maxRecDepth 20000 in
theorem e_go (l : Launch) (G : GG) (σ : Sg) {N : Nat} (hN8 : N ≤ 8) (hN : σ 66 0 = nI N) (hW : WR (σ 66)) {t : Nat} (ht : t ≤ 90000) (ht1 : σ 66 1 = nI t) (x : Int32) : Ct l G mX8_go 6 shT [.ref (ad G 65), .int x] σ (fun r τ => ((x < 1 ∨ ¬ x ≤ 60) ∧ gQ σ 0 r τ) ∨ (¬ x < 1 ∧ x ≤ 60 ∧ ¬ σ 66 1 + x ≤ 99999 ∧ gQ σ 4 r τ) ∨ ∃ m, m ≤ 60 ∧ x = nI m ∧ ¬ x < 1 ∧ x ≤ 60 ∧ σ 66 1 + x ≤ 99999 ∧ τ = sR σ (tkN (σ 66) N m) ∧ r = some (.int (orS (fun u => tkN (σ 66) N m (53 + 8 * u + 1) = 16) (fun _ => inferInstance) N))) := by
  refine ct_intro (by decide) (Nat.le_of_ble_eq_true rfl) (fun X B R => ?_)
  show V X G shT σ [some (.ref (ad G 65)), some (.int x), none, none] [] 0
  refine r_iload_n (pc := 0) B dX8_go_0 rfl ?_
  refine r_i2l (pc := 1) B dX8_go_1 ?_
  refine r_lconst (pc := 2) (x := 1) B dX8_go_2 rfl ?_
  refine r_ldc2_w (pc := 3) B q927 dX8_go_3 ?_
  refine r_cSi3 (pc := 6) B KX8_49 (e_isIn l G _ _ (v := x) (a := 1) (b := 60) rfl rfl rfl) (by decide) (Nat.le_of_ble_eq_true rfl) dX8_go_6 ?_
  refine r_if_ne (pc := 9) B 19 dX8_go_9 (by decide) (fun h9 => ?_) (fun h9 => ?_)
  · skip
    have hx := bI_n.mp h9
    obtain ⟨m, hm, hm2⟩ := wi_nI (x := x) (g := 60) (by decide) ⟨fun z => hx.1 (Int32.lt_trans z (by decide)), hx.2⟩
    refine r_aload_n (pc := 19) B dX8_go_19 rfl ?_
    refine r_getr (pc := 20) B FX8_7 rfl rfl dX8_go_20 ?_
    refine r_iconst (pc := 23) (x := 1) B dX8_go_23 (by decide) ?_
    refine r_iald (pc := 24) B rfl (ix_of 1 rfl) dX8_go_24 ?_
    refine r_iload_n (pc := 25) B dX8_go_25 rfl ?_
    refine r_iadd (pc := 26) B dX8_go_26 ?_
    refine r_ldc (pc := 27) B q914 dX8_go_27 ?_
    refine r_icmp_le (pc := 29) B 39 dX8_go_29 (by decide) (fun h29 => ?_) (fun h29 => ?_)
    · skip
      refine r_iconst (pc := 39) (x := 0) B dX8_go_39 (by decide) ?_
      refine r_istore_2 (pc := 40) B dX8_go_40 (by decide) rfl ?_
      have hL41 : ∀ (p i : Nat) (tl : Option Value), i + p = m → V X G shT (sR σ (tkN (σ 66) N i)) [some (.ref (ad G 65)), some (.int x), some (.int (nI i)), tl] [] 41 := by
        intro p
        induction p with
        | zero =>
          intro i tl hi
          have ei : i = m := by omega
          subst ei
          refine r_iload_n (pc := 41) B dX8_go_41 rfl ?_
          refine r_iload_n (pc := 42) B dX8_go_42 rfl ?_
          refine r_icmp_ge (pc := 43) B 57 dX8_go_43 (by decide) (fun h43 => ?_) (fun h43 => ?_)
          · skip
            refine r_aload_n (pc := 57) B dX8_go_57 rfl ?_
            refine r_cVi0 (pc := 58) B KX8_126 (e_homes l G _ hN8 (by rw [sR_66, tk_0]; exact hN)) rfl rfl (by decide) (Nat.le_of_ble_eq_true rfl) dX8_go_58 ?_
            exact r_iret (pc := 61) B R dX8_go_61 (Or.inr (Or.inr ⟨i, hm, hm2, hx.1, Int32.not_lt.mp hx.2, h29, rfl, rfl⟩))
          · skip
            exact absurd (by rw [hm2]; exact Int32.le_refl _) h43
        | succ p ih =>
          intro i tl hi
          refine r_iload_n (pc := 41) B dX8_go_41 rfl ?_
          refine r_iload_n (pc := 42) B dX8_go_42 rfl ?_
          refine r_icmp_ge (pc := 43) B 57 dX8_go_43 (by decide) (fun h43 => ?_) (fun h43 => ?_)
          · skip
            exact absurd ((nI_leI (a := m) (b := i) (by omega) (by omega)).mp (by rw [← hm2]; exact h43)) (by omega)
          · skip
            refine r_aload_n (pc := 46) B dX8_go_46 rfl ?_
            refine r_cVi0 (pc := 47) B KX8_122 (e_tick l G _ hN8 (by rw [sR_66, tk_0]; exact hN) (t := t + i) (by omega) (by rw [sR_66]; exact tk_1 ht1 i (by omega)) (by rw [sR_66]; exact tk_WR hW hN8 i)) rfl rfl (by decide) (Nat.le_of_ble_eq_true rfl) dX8_go_47 ?_
            rw [sR_sR, sR_66]
            refine r_istore_3 (pc := 50) B dX8_go_50 (by decide) rfl ?_
            refine r_iinc_2 (pc := 51) (y := _ + 1) B dX8_go_51 rfl (by decide) rfl ?_
            refine r_goto (pc := 54) B 41 dX8_go_54 (by decide) ?_
            rw [nI_1]
            exact ih (i + 1) _ (by omega)
      rw [← sR_self σ]
      exact hL41 m 0 none (by omega)
    · skip
      refine r_aload_n (pc := 32) B dX8_go_32 rfl ?_
      refine r_ldc (pc := 33) B q928 dX8_go_33 ?_
      refine r_cVi1 (pc := 35) B KX8_39 (e_finds l G _ (j := 4) rfl (by decide)) rfl rfl (by decide) (Nat.le_of_ble_eq_true rfl) dX8_go_35 ?_
      exact r_iret (pc := 38) B R dX8_go_38 (Or.inr (Or.inl ⟨hx.1, Int32.not_lt.mp hx.2, h29, rfl, rfl⟩))
  · skip
    refine r_aload_n (pc := 12) B dX8_go_12 rfl ?_
    refine r_ldc (pc := 13) B q836 dX8_go_13 ?_
    refine r_cVi1 (pc := 15) B KX8_39 (e_finds l G _ (j := 0) rfl (by decide)) rfl rfl (by decide) (Nat.le_of_ble_eq_true rfl) dX8_go_15 ?_
    exact r_iret (pc := 18) B R dX8_go_18 (Or.inl ⟨by by_cases q : x < 1; exact Or.inl q; exact Or.inr (fun z => bI_0.mp h9 ⟨q, Int32.not_lt.mpr z⟩), rfl, rfl⟩)

/-! the calls of InsideOut: each by its cases -/
def fA (j : Nat) : Int32 := -1000001 - nI j
abbrev fQ (σ : Sg) (j : Nat) (r : Option Value) (τ : Sg) : Prop := r = some (.int (fA j)) ∧ τ = fnd σ j
def gS (a : Int32) : Int32 := if a = 0 then 2 else if a = 1 then 99 else 1
/-- only the walk's own cells change -/
def wkO (σ τ : Sg) : Prop := ∀ k, k < 47 ∨ 52 ≤ k → τ k = σ k
theorem wk_wkO {σ τ : Sg} {s : WS} {u : Nat} (hu : u < 8) (h : isWk (swk σ u) τ s) : wkO σ τ := fun k hk => by
  rw [h.2.2.1 k (by omega) (by omega)]
  exact (swk_wk σ u hu).2 k hk
theorem no_of {p q : Prop} [Decidable p] (h : bI p = 0) : ¬ (p ∧ q) := fun z => bI_0.mp h z.1

set_option maxHeartbeats 4000000 in
set_option maxRecDepth 20000 in
theorem c_step (l : Launch) (G : GG) (σ : Sg) (x a v : Int32) : Ct l G mX7_step 1 shT [.ref (ad G 0), .int x, .int a, .int v] σ (fun r τ => (¬ (stepP x ∧ withinP a 2 ∧ withinP v (gS a)) ∧ fQ σ 0 r τ) ∨ ∃ j k, j < 16 ∧ k < 3 ∧ x = nI j ∧ a = nI k ∧ withinP v (gS a) ∧ r = some (.int (σ (3 + k) j)) ∧ τ = st2 σ (3 + k) j v) := by
  refine ct_intro (by decide) (Nat.le_of_ble_eq_true rfl) (fun X B R => ?_)
  show V X G shT σ [some (.ref (ad G 0)), some (.int x), some (.int a), some (.int v), none, none, none, none] [] 0
  refine r_iload_n (pc := 0) B dX7_step_0 rfl ?_
  refine r_cSi1 (pc := 1) B KX7_60 (c_isStep l G _ _ _) (by decide) (Nat.le_of_ble_eq_true rfl) dX7_step_1 ?_
  refine r_if_ne (pc := 4) B 13 dX7_step_4 (by decide) (fun h4 => ?_) (fun h4 => ?_)
  · skip
    obtain ⟨j, hj, hx⟩ := stepP_nI (bI_n.mp h4)
    refine r_aload_n (pc := 13) B dX7_step_13 rfl ?_
    refine r_getr (pc := 14) B FX7_10 rfl rfl dX7_step_14 ?_
    refine r_getr (pc := 17) B FX7_68 rfl rfl dX7_step_17 ?_
    refine r_astore_4 (pc := 20) B dX7_step_20 (by decide) rfl ?_
    refine r_iload_n (pc := 22) B dX7_step_22 rfl ?_
    refine r_tsC (pc := 23) B 0 48 dX7_step_23 (by decide) (by decide) rfl (by decide) (fun h23_0 => ?_) (fun h23_0 => ?_)
    · skip
      refine r_aload (pc := 48) B dX7_step_48 rfl ?_
      refine r_getr (pc := 50) B FX7_72 rfl rfl dX7_step_50 ?_
      refine r_astore_5 (pc := 53) B dX7_step_53 (by decide) rfl ?_
      refine r_iconst (pc := 55) (x := 2) B dX7_step_55 (by decide) ?_
      refine r_istore_6 (pc := 56) B dX7_step_56 (by decide) rfl ?_
      refine r_goto (pc := 58) B 94 dX7_step_58 (by decide) ?_
      refine r_iload_n (pc := 94) B dX7_step_94 rfl ?_
      refine r_iload (pc := 95) B dX7_step_95 rfl ?_
      refine r_cSi2 (pc := 97) B KX7_83 (c_isWithin l G _ _ _ _) (by decide) (Nat.le_of_ble_eq_true rfl) dX7_step_97 ?_
      refine r_if_ne (pc := 100) B 109 dX7_step_100 (by decide) (fun h100 => ?_) (fun h100 => ?_)
      · skip
        refine r_aload (pc := 109) B dX7_step_109 rfl ?_
        refine r_iload_n (pc := 111) B dX7_step_111 rfl ?_
        refine r_iald (pc := 112) B rfl (ix_eq hx hj (by decide)) dX7_step_112 ?_
        refine r_istore_7 (pc := 113) B dX7_step_113 (by decide) rfl ?_
        refine r_aload (pc := 115) B dX7_step_115 rfl ?_
        refine r_iload_n (pc := 117) B dX7_step_117 rfl ?_
        refine r_iload_n (pc := 118) B dX7_step_118 rfl ?_
        refine r_iast (pc := 119) B rfl (ix_eq hx hj (by decide)) dX7_step_119 ?_
        refine r_iload (pc := 120) B dX7_step_120 rfl ?_
        exact r_iret (pc := 122) B R dX7_step_122 (Or.inr (by first | exact ⟨j, 0, hj, by omega, hx, h23_0, by simpa [gS, h23_0] using bI_n.mp h100, rfl, rfl⟩ | exact ⟨j, 1, hj, by omega, hx, h23_1, by simpa [gS, h23_1] using bI_n.mp h100, rfl, rfl⟩ | exact ⟨j, 2, hj, by omega, hx, h23_2, by simpa [gS, h23_2] using bI_n.mp h100, rfl, rfl⟩))
      · skip
        refine r_aload_n (pc := 103) B dX7_step_103 rfl ?_
        refine r_iconst (pc := 104) (x := 0) B dX7_step_104 (by decide) ?_
        refine r_cVi1 (pc := 105) B KX7_64 (c_finding l G _ 0 (ix_of 0 rfl)) rfl rfl (by decide) (Nat.le_of_ble_eq_true rfl) dX7_step_105 ?_
        exact r_iret (pc := 108) B R dX7_step_108 (Or.inl ⟨fun q => bI_0.mp h100 (by simpa [gS, *] using q.2.2), rfl, rfl⟩)
    refine r_tsC (pc := 23) B 1 61 dX7_step_23 (by decide) (by decide) rfl (by decide) (fun h23_1 => ?_) (fun h23_1 => ?_)
    · skip
      refine r_aload (pc := 61) B dX7_step_61 rfl ?_
      refine r_getr (pc := 63) B FX7_77 rfl rfl dX7_step_63 ?_
      refine r_astore_5 (pc := 66) B dX7_step_66 (by decide) rfl ?_
      refine r_bipush (pc := 68) (x := 99) B dX7_step_68 (by decide) ?_
      refine r_istore_6 (pc := 70) B dX7_step_70 (by decide) rfl ?_
      refine r_goto (pc := 72) B 94 dX7_step_72 (by decide) ?_
      refine r_iload_n (pc := 94) B dX7_step_94 rfl ?_
      refine r_iload (pc := 95) B dX7_step_95 rfl ?_
      refine r_cSi2 (pc := 97) B KX7_83 (c_isWithin l G _ _ _ _) (by decide) (Nat.le_of_ble_eq_true rfl) dX7_step_97 ?_
      refine r_if_ne (pc := 100) B 109 dX7_step_100 (by decide) (fun h100 => ?_) (fun h100 => ?_)
      · skip
        refine r_aload (pc := 109) B dX7_step_109 rfl ?_
        refine r_iload_n (pc := 111) B dX7_step_111 rfl ?_
        refine r_iald (pc := 112) B rfl (ix_eq hx hj (by decide)) dX7_step_112 ?_
        refine r_istore_7 (pc := 113) B dX7_step_113 (by decide) rfl ?_
        refine r_aload (pc := 115) B dX7_step_115 rfl ?_
        refine r_iload_n (pc := 117) B dX7_step_117 rfl ?_
        refine r_iload_n (pc := 118) B dX7_step_118 rfl ?_
        refine r_iast (pc := 119) B rfl (ix_eq hx hj (by decide)) dX7_step_119 ?_
        refine r_iload (pc := 120) B dX7_step_120 rfl ?_
        exact r_iret (pc := 122) B R dX7_step_122 (Or.inr (by first | exact ⟨j, 0, hj, by omega, hx, h23_0, by simpa [gS, h23_0] using bI_n.mp h100, rfl, rfl⟩ | exact ⟨j, 1, hj, by omega, hx, h23_1, by simpa [gS, h23_1] using bI_n.mp h100, rfl, rfl⟩ | exact ⟨j, 2, hj, by omega, hx, h23_2, by simpa [gS, h23_2] using bI_n.mp h100, rfl, rfl⟩))
      · skip
        refine r_aload_n (pc := 103) B dX7_step_103 rfl ?_
        refine r_iconst (pc := 104) (x := 0) B dX7_step_104 (by decide) ?_
        refine r_cVi1 (pc := 105) B KX7_64 (c_finding l G _ 0 (ix_of 0 rfl)) rfl rfl (by decide) (Nat.le_of_ble_eq_true rfl) dX7_step_105 ?_
        exact r_iret (pc := 108) B R dX7_step_108 (Or.inl ⟨fun q => bI_0.mp h100 (by simpa [gS, *] using q.2.2), rfl, rfl⟩)
    refine r_tsC (pc := 23) B 2 75 dX7_step_23 (by decide) (by decide) rfl (by decide) (fun h23_2 => ?_) (fun h23_2 => ?_)
    · skip
      refine r_aload (pc := 75) B dX7_step_75 rfl ?_
      refine r_getr (pc := 77) B FX7_80 rfl rfl dX7_step_77 ?_
      refine r_astore_5 (pc := 80) B dX7_step_80 (by decide) rfl ?_
      refine r_iconst (pc := 82) (x := 1) B dX7_step_82 (by decide) ?_
      refine r_istore_6 (pc := 83) B dX7_step_83 (by decide) rfl ?_
      refine r_goto (pc := 85) B 94 dX7_step_85 (by decide) ?_
      refine r_iload_n (pc := 94) B dX7_step_94 rfl ?_
      refine r_iload (pc := 95) B dX7_step_95 rfl ?_
      refine r_cSi2 (pc := 97) B KX7_83 (c_isWithin l G _ _ _ _) (by decide) (Nat.le_of_ble_eq_true rfl) dX7_step_97 ?_
      refine r_if_ne (pc := 100) B 109 dX7_step_100 (by decide) (fun h100 => ?_) (fun h100 => ?_)
      · skip
        refine r_aload (pc := 109) B dX7_step_109 rfl ?_
        refine r_iload_n (pc := 111) B dX7_step_111 rfl ?_
        refine r_iald (pc := 112) B rfl (ix_eq hx hj (by decide)) dX7_step_112 ?_
        refine r_istore_7 (pc := 113) B dX7_step_113 (by decide) rfl ?_
        refine r_aload (pc := 115) B dX7_step_115 rfl ?_
        refine r_iload_n (pc := 117) B dX7_step_117 rfl ?_
        refine r_iload_n (pc := 118) B dX7_step_118 rfl ?_
        refine r_iast (pc := 119) B rfl (ix_eq hx hj (by decide)) dX7_step_119 ?_
        refine r_iload (pc := 120) B dX7_step_120 rfl ?_
        exact r_iret (pc := 122) B R dX7_step_122 (Or.inr (by first | exact ⟨j, 0, hj, by omega, hx, h23_0, by simpa [gS, h23_0] using bI_n.mp h100, rfl, rfl⟩ | exact ⟨j, 1, hj, by omega, hx, h23_1, by simpa [gS, h23_1] using bI_n.mp h100, rfl, rfl⟩ | exact ⟨j, 2, hj, by omega, hx, h23_2, by simpa [gS, h23_2] using bI_n.mp h100, rfl, rfl⟩))
      · skip
        refine r_aload_n (pc := 103) B dX7_step_103 rfl ?_
        refine r_iconst (pc := 104) (x := 0) B dX7_step_104 (by decide) ?_
        refine r_cVi1 (pc := 105) B KX7_64 (c_finding l G _ 0 (ix_of 0 rfl)) rfl rfl (by decide) (Nat.le_of_ble_eq_true rfl) dX7_step_105 ?_
        exact r_iret (pc := 108) B R dX7_step_108 (Or.inl ⟨fun q => bI_0.mp h100 (by simpa [gS, *] using q.2.2), rfl, rfl⟩)
    refine r_tsD (pc := 23) B 88 dX7_step_23 (by have e0 := ts_in (c := 0) h23_0 rfl; have e1 := ts_in (c := 1) h23_1 rfl; have e2 := ts_in (c := 2) h23_2 rfl; omega) (by decide) ?_
    refine r_aload_n (pc := 88) B dX7_step_88 rfl ?_
    refine r_iconst (pc := 89) (x := 0) B dX7_step_89 (by decide) ?_
    refine r_cVi1 (pc := 90) B KX7_64 (c_finding l G _ 0 (ix_of 0 rfl)) rfl rfl (by decide) (Nat.le_of_ble_eq_true rfl) dX7_step_90 ?_
    exact r_iret (pc := 93) B R dX7_step_93 (Or.inl ⟨fun q => by obtain ⟨k, hk, rfl⟩ := nI_of q.2.1.1; have := (nI_leI (b := 2) hk (by omega)).mp (Int32.not_lt.mp q.2.1.2); have := nI_nis (c := 0) h23_0 rfl; have := nI_nis (c := 1) h23_1 rfl; have := nI_nis (c := 2) h23_2 rfl; omega, rfl, rfl⟩)
  · skip
    refine r_aload_n (pc := 7) B dX7_step_7 rfl ?_
    refine r_iconst (pc := 8) (x := 0) B dX7_step_8 (by decide) ?_
    refine r_cVi1 (pc := 9) B KX7_64 (c_finding l G _ 0 (ix_of 0 rfl)) rfl rfl (by decide) (Nat.le_of_ble_eq_true rfl) dX7_step_9 ?_
    exact r_iret (pc := 12) B R dX7_step_12 (Or.inl ⟨fun q => bI_0.mp h4 q.1, rfl, rfl⟩)
set_option maxHeartbeats 4000000 in
set_option maxRecDepth 20000 in
theorem c_stepOf (l : Launch) (G : GG) (σ : Sg) {N : Nat} (hN8 : N ≤ 8) (hN : σ 1 2 = nI N) (x a : Int32) : Ct l G mX7_stepOf 2 shT [.ref (ad G 0), .int x, .int a] σ (fun r τ => (¬ (stepP x ∧ withinP a 4) ∧ fQ σ 0 r τ) ∨ ∃ j k, j < 16 ∧ k < 5 ∧ x = nI j ∧ a = nI k ∧ τ = σ ∧ r = some (.int (if k < 3 then σ (3 + k) j else if k = 3 then windF (σ 4) (σ 5) (σ 2 4) (σ 2 5) j else orS (fun u => σ (8 + u) 1 = nI j) (fun _ => inferInstance) N))) := by
  refine ct_intro (by decide) (Nat.le_of_ble_eq_true rfl) (fun X B R => ?_)
  show V X G shT σ [some (.ref (ad G 0)), some (.int x), some (.int a), none] [] 0
  refine r_iload_n (pc := 0) B dX7_stepOf_0 rfl ?_
  refine r_cSi1 (pc := 1) B KX7_60 (c_isStep l G _ _ _) (by decide) (Nat.le_of_ble_eq_true rfl) dX7_stepOf_1 ?_
  refine r_if_ne (pc := 4) B 13 dX7_stepOf_4 (by decide) (fun h4 => ?_) (fun h4 => ?_)
  · skip
    obtain ⟨j, hj, hx⟩ := stepP_nI (bI_n.mp h4)
    refine r_aload_n (pc := 13) B dX7_stepOf_13 rfl ?_
    refine r_getr (pc := 14) B FX7_10 rfl rfl dX7_stepOf_14 ?_
    refine r_getr (pc := 17) B FX7_68 rfl rfl dX7_stepOf_17 ?_
    refine r_astore_3 (pc := 20) B dX7_stepOf_20 (by decide) rfl ?_
    refine r_iload_n (pc := 21) B dX7_stepOf_21 rfl ?_
    refine r_tsC (pc := 22) B 0 56 dX7_stepOf_22 (by decide) (by decide) rfl (by decide) (fun h22_0 => ?_) (fun h22_0 => ?_)
    · skip
      refine r_aload_n (pc := 56) B dX7_stepOf_56 rfl ?_
      refine r_getr (pc := 57) B FX7_72 rfl rfl dX7_stepOf_57 ?_
      refine r_iload_n (pc := 60) B dX7_stepOf_60 rfl ?_
      refine r_iald (pc := 61) B rfl (ix_eq hx hj (by decide)) dX7_stepOf_61 ?_
      exact r_iret (pc := 62) B R dX7_stepOf_62 (Or.inr ⟨j, 0, hj, by omega, hx, h22_0, rfl, rfl⟩)
    refine r_tsC (pc := 22) B 1 63 dX7_stepOf_22 (by decide) (by decide) rfl (by decide) (fun h22_1 => ?_) (fun h22_1 => ?_)
    · skip
      refine r_aload_n (pc := 63) B dX7_stepOf_63 rfl ?_
      refine r_getr (pc := 64) B FX7_77 rfl rfl dX7_stepOf_64 ?_
      refine r_iload_n (pc := 67) B dX7_stepOf_67 rfl ?_
      refine r_iald (pc := 68) B rfl (ix_eq hx hj (by decide)) dX7_stepOf_68 ?_
      exact r_iret (pc := 69) B R dX7_stepOf_69 (Or.inr ⟨j, 1, hj, by omega, hx, h22_1, rfl, rfl⟩)
    refine r_tsC (pc := 22) B 2 70 dX7_stepOf_22 (by decide) (by decide) rfl (by decide) (fun h22_2 => ?_) (fun h22_2 => ?_)
    · skip
      refine r_aload_n (pc := 70) B dX7_stepOf_70 rfl ?_
      refine r_getr (pc := 71) B FX7_80 rfl rfl dX7_stepOf_71 ?_
      refine r_iload_n (pc := 74) B dX7_stepOf_74 rfl ?_
      refine r_iald (pc := 75) B rfl (ix_eq hx hj (by decide)) dX7_stepOf_75 ?_
      exact r_iret (pc := 76) B R dX7_stepOf_76 (Or.inr ⟨j, 2, hj, by omega, hx, h22_2, rfl, rfl⟩)
    refine r_tsC (pc := 22) B 3 77 dX7_stepOf_22 (by decide) (by decide) rfl (by decide) (fun h22_3 => ?_) (fun h22_3 => ?_)
    · skip
      refine r_aload_n (pc := 77) B dX7_stepOf_77 rfl ?_
      refine r_iload_n (pc := 78) B dX7_stepOf_78 rfl ?_
      rw [hx]
      refine r_cVi1 (pc := 79) B KX7_87 (c_windOn l G _ S2 hj) rfl rfl (by decide) (Nat.le_of_ble_eq_true rfl) dX7_stepOf_79 ?_
      exact r_iret (pc := 82) B R dX7_stepOf_82 (Or.inr ⟨j, 3, hj, by omega, hx, h22_3, rfl, rfl⟩)
    refine r_tsC (pc := 22) B 4 83 dX7_stepOf_22 (by decide) (by decide) rfl (by decide) (fun h22_4 => ?_) (fun h22_4 => ?_)
    · skip
      refine r_aload_n (pc := 83) B dX7_stepOf_83 rfl ?_
      refine r_getr (pc := 84) B FX7_10 rfl rfl dX7_stepOf_84 ?_
      refine r_iconst (pc := 87) (x := 1) B dX7_stepOf_87 (by decide) ?_
      refine r_iload_n (pc := 88) B dX7_stepOf_88 rfl ?_
      rw [hx]
      refine r_cVi2 (pc := 89) B KX7_90 (c_setOf l G _ W1 (f := 1) hN8 hN (by omega) _) rfl rfl (by decide) (Nat.le_of_ble_eq_true rfl) dX7_stepOf_89 ?_
      exact r_iret (pc := 92) B R dX7_stepOf_92 (Or.inr ⟨j, 4, hj, by omega, hx, h22_4, rfl, rfl⟩)
    refine r_tsD (pc := 22) B 93 dX7_stepOf_22 (by have e0 := ts_in (c := 0) h22_0 rfl; have e1 := ts_in (c := 1) h22_1 rfl; have e2 := ts_in (c := 2) h22_2 rfl; have e3 := ts_in (c := 3) h22_3 rfl; have e4 := ts_in (c := 4) h22_4 rfl; omega) (by decide) ?_
    refine r_aload_n (pc := 93) B dX7_stepOf_93 rfl ?_
    refine r_iconst (pc := 94) (x := 0) B dX7_stepOf_94 (by decide) ?_
    refine r_cVi1 (pc := 95) B KX7_64 (c_finding l G _ 0 (ix_of 0 rfl)) rfl rfl (by decide) (Nat.le_of_ble_eq_true rfl) dX7_stepOf_95 ?_
    exact r_iret (pc := 98) B R dX7_stepOf_98 (Or.inl ⟨fun q => by obtain ⟨k, hk, rfl⟩ := nI_of q.2.1; have := (nI_leI (b := 4) hk (by omega)).mp (Int32.not_lt.mp q.2.2); have := nI_nis (c := 0) h22_0 rfl; have := nI_nis (c := 1) h22_1 rfl; have := nI_nis (c := 2) h22_2 rfl; have := nI_nis (c := 3) h22_3 rfl; have := nI_nis (c := 4) h22_4 rfl; omega, rfl, rfl⟩)
  · skip
    refine r_aload_n (pc := 7) B dX7_stepOf_7 rfl ?_
    refine r_iconst (pc := 8) (x := 0) B dX7_stepOf_8 (by decide) ?_
    refine r_cVi1 (pc := 9) B KX7_64 (c_finding l G _ 0 (ix_of 0 rfl)) rfl rfl (by decide) (Nat.le_of_ble_eq_true rfl) dX7_stepOf_9 ?_
    exact r_iret (pc := 12) B R dX7_stepOf_12 (Or.inl ⟨fun q => bI_0.mp h4 q.1, rfl, rfl⟩)
set_option maxHeartbeats 4000000 in
set_option maxRecDepth 20000 in
theorem c_weather (l : Launch) (G : GG) (σ : Sg) (a v : Int32) : Ct l G mX7_weather 1 shT [.ref (ad G 0), .int a, .int v] σ (fun r τ => (¬ (withinP a 1 ∧ withinP v 99) ∧ fQ σ 0 r τ) ∨ ∃ k, k < 2 ∧ a = nI k ∧ withinP v 99 ∧ r = some (.int (σ 2 (3 + k))) ∧ τ = st2 σ 2 (3 + k) v) := by
  refine ct_intro (by decide) (Nat.le_of_ble_eq_true rfl) (fun X B R => ?_)
  show V X G shT σ [some (.ref (ad G 0)), some (.int a), some (.int v), none, none] [] 0
  refine r_iload_n (pc := 0) B dX7_weather_0 rfl ?_
  refine r_iconst (pc := 1) (x := 1) B dX7_weather_1 (by decide) ?_
  refine r_cSi2 (pc := 2) B KX7_83 (c_isWithin l G _ _ _ _) (by decide) (Nat.le_of_ble_eq_true rfl) dX7_weather_2 ?_
  refine r_if_eq (pc := 5) B 17 dX7_weather_5 (by decide) (fun h5 => ?_) (fun h5 => ?_)
  · skip
    refine r_aload_n (pc := 17) B dX7_weather_17 rfl ?_
    refine r_iconst (pc := 18) (x := 0) B dX7_weather_18 (by decide) ?_
    refine r_cVi1 (pc := 19) B KX7_64 (c_finding l G _ 0 (ix_of 0 rfl)) rfl rfl (by decide) (Nat.le_of_ble_eq_true rfl) dX7_weather_19 ?_
    exact r_iret (pc := 22) B R dX7_weather_22 (Or.inl ⟨by first | exact fun q => bI_0.mp h5 q.1 | exact fun q => bI_0.mp h14 q.2, rfl, rfl⟩)
  · skip
    refine r_iload_n (pc := 8) B dX7_weather_8 rfl ?_
    refine r_bipush (pc := 9) (x := 99) B dX7_weather_9 (by decide) ?_
    refine r_cSi2 (pc := 11) B KX7_83 (c_isWithin l G _ _ _ _) (by decide) (Nat.le_of_ble_eq_true rfl) dX7_weather_11 ?_
    refine r_if_ne (pc := 14) B 23 dX7_weather_14 (by decide) (fun h14 => ?_) (fun h14 => ?_)
    · skip
      refine r_aload_n (pc := 23) B dX7_weather_23 rfl ?_
      refine r_getr (pc := 24) B FX7_10 rfl rfl dX7_weather_24 ?_
      refine r_getr (pc := 27) B FX7_68 rfl rfl dX7_weather_27 ?_
      refine r_astore_3 (pc := 30) B dX7_weather_30 (by decide) rfl ?_
      refine r_iload_n (pc := 31) B dX7_weather_31 rfl ?_
      refine r_if_ne (pc := 32) B 49 dX7_weather_32 (by decide) (fun h32 => ?_) (fun h32 => ?_)
      · skip
        refine r_aload_n (pc := 49) B dX7_weather_49 rfl ?_
        refine r_geti (pc := 50) B FX7_98 rfl rfl dX7_weather_50 ?_
        refine r_istore_4 (pc := 53) B dX7_weather_53 (by decide) rfl ?_
        refine r_aload_n (pc := 55) B dX7_weather_55 rfl ?_
        refine r_iload_n (pc := 56) B dX7_weather_56 rfl ?_
        refine r_puti (pc := 57) B PX7_98 rfl rfl dX7_weather_57 ?_
        refine r_iload (pc := 60) B dX7_weather_60 rfl ?_
        exact r_iret (pc := 62) B R dX7_weather_62 (Or.inr ⟨1, by omega, by obtain ⟨k, hk, rfl⟩ := nI_of (bI_n.mp h5).1; have := (nI_leI (b := 1) hk (by omega)).mp (Int32.not_lt.mp (bI_n.mp h5).2); have := nI_nis (c := 0) h32 rfl; rw [show k = 1 by omega], bI_n.mp h14, rfl, rfl⟩)
      · skip
        refine r_aload_n (pc := 35) B dX7_weather_35 rfl ?_
        refine r_geti (pc := 36) B FX7_94 rfl rfl dX7_weather_36 ?_
        refine r_istore_4 (pc := 39) B dX7_weather_39 (by decide) rfl ?_
        refine r_aload_n (pc := 41) B dX7_weather_41 rfl ?_
        refine r_iload_n (pc := 42) B dX7_weather_42 rfl ?_
        refine r_puti (pc := 43) B PX7_94 rfl rfl dX7_weather_43 ?_
        refine r_iload (pc := 46) B dX7_weather_46 rfl ?_
        exact r_iret (pc := 48) B R dX7_weather_48 (Or.inr ⟨0, by omega, h32, bI_n.mp h14, rfl, rfl⟩)
    · skip
      refine r_aload_n (pc := 17) B dX7_weather_17 rfl ?_
      refine r_iconst (pc := 18) (x := 0) B dX7_weather_18 (by decide) ?_
      refine r_cVi1 (pc := 19) B KX7_64 (c_finding l G _ 0 (ix_of 0 rfl)) rfl rfl (by decide) (Nat.le_of_ble_eq_true rfl) dX7_weather_19 ?_
      exact r_iret (pc := 22) B R dX7_weather_22 (Or.inl ⟨by first | exact fun q => bI_0.mp h5 q.1 | exact fun q => bI_0.mp h14 q.2, rfl, rfl⟩)
set_option maxHeartbeats 4000000 in
set_option maxRecDepth 20000 in
theorem c_umbrella (l : Launch) (G : GG) (σ : Sg) {N : Nat} (hN8 : N ≤ 8) (hN : σ 1 2 = nI N) (k : Int32) : Ct l G mX7_umbrella 2 shT [.ref (ad G 0), .int k] σ (fun r τ => (¬ withinP k 6 ∧ fQ σ 0 r τ) ∨ (withinP k 6 ∧ N = 8 ∧ fQ σ 1 r τ) ∨ (withinP k 6 ∧ N < 8 ∧ r = some (.int (nI N)) ∧ τ = st2 (wrU σ (8 + N) (newU k)) 1 2 (nI (N + 1)))) := by
  have hk : (¬ k < 0 ∧ ¬ 7 ≤ k) ↔ withinP k 6 := ⟨fun q => ⟨q.1, fun z => q.2 (by grind)⟩, fun q => ⟨q.1, fun z => q.2 (by grind)⟩⟩
  refine ct_intro (by decide) (Nat.le_of_ble_eq_true rfl) (fun X B R => ?_)
  show V X G shT σ [some (.ref (ad G 0)), some (.int k)] [] 0
  refine r_iload_n (pc := 0) B dX7_umbrella_0 rfl ?_
  refine r_cSi1 (pc := 1) B KX7_101 (c_isKind l G _ _ _) (by decide) (Nat.le_of_ble_eq_true rfl) dX7_umbrella_1 ?_
  refine r_if_ne (pc := 4) B 13 dX7_umbrella_4 (by decide) (fun h4 => ?_) (fun h4 => ?_)
  · skip
    refine r_aload_n (pc := 13) B dX7_umbrella_13 rfl ?_
    refine r_getr (pc := 14) B FX7_10 rfl rfl dX7_umbrella_14 ?_
    refine r_cVi0 (pc := 17) B KX7_104 (c_isFull l G _ W1) rfl rfl (by decide) (Nat.le_of_ble_eq_true rfl) dX7_umbrella_17 ?_
    refine r_if_eq (pc := 20) B 29 dX7_umbrella_20 (by decide) (fun h20 => ?_) (fun h20 => ?_)
    · skip
      have hn8 : N < 8 := by
        have := bI_0.mp h20
        rw [hN] at this
        exact (nI_ltI (b := 8) (by omega) (by omega)).mp (Classical.not_not.mp this)
      refine r_aload_n (pc := 29) B dX7_umbrella_29 rfl ?_
      refine r_getr (pc := 30) B FX7_10 rfl rfl dX7_umbrella_30 ?_
      refine r_iload_n (pc := 33) B dX7_umbrella_33 rfl ?_
      refine r_cVi1 (pc := 34) B KX7_108 (c_addUmbrella l G _ W1 hn8 hN _) rfl rfl (by decide) (Nat.le_of_ble_eq_true rfl) dX7_umbrella_34 ?_
      exact r_iret (pc := 37) B R dX7_umbrella_37 (Or.inr (Or.inr ⟨hk.mp (bI_n.mp h4), hn8, rfl, rfl⟩))
    · skip
      have hn8 : N = 8 := by
        have := bI_n.mp h20
        rw [hN] at this
        rcases Nat.lt_or_ge N 8 with q | q
        · exact absurd ((nI_ltI (b := 8) (by omega) (by omega)).mpr q) this
        · omega
      refine r_aload_n (pc := 23) B dX7_umbrella_23 rfl ?_
      refine r_iconst (pc := 24) (x := 1) B dX7_umbrella_24 (by decide) ?_
      refine r_cVi1 (pc := 25) B KX7_64 (c_finding l G _ 1 (ix_of 1 rfl)) rfl rfl (by decide) (Nat.le_of_ble_eq_true rfl) dX7_umbrella_25 ?_
      exact r_iret (pc := 28) B R dX7_umbrella_28 (Or.inr (Or.inl ⟨hk.mp (bI_n.mp h4), hn8, rfl, rfl⟩))
  · skip
    refine r_aload_n (pc := 7) B dX7_umbrella_7 rfl ?_
    refine r_iconst (pc := 8) (x := 0) B dX7_umbrella_8 (by decide) ?_
    refine r_cVi1 (pc := 9) B KX7_64 (c_finding l G _ 0 (ix_of 0 rfl)) rfl rfl (by decide) (Nat.le_of_ble_eq_true rfl) dX7_umbrella_9 ?_
    exact r_iret (pc := 12) B R dX7_umbrella_12 (Or.inl ⟨fun q => bI_0.mp h4 (hk.mpr q), rfl, rfl⟩)
theorem wi_nI {x : Int32} {g : Nat} (hg : g < 2 ^ 31) (h : withinP x (nI g)) : ∃ k, k ≤ g ∧ x = nI k := by
  obtain ⟨k, hk, rfl⟩ := nI_of h.1
  exact ⟨k, (nI_leI hk hg).mp (Int32.not_lt.mp h.2), rfl⟩
def ofF (σ : Sg) (u k : Nat) : Int32 := if k = 8 then stiffF (σ (8 + u)) else if k = 9 then covF (σ 2 3) (σ 2 5) (σ (8 + u) 0) (σ (8 + u) 7) else if k = 10 then paceF (σ 2 5) (σ (8 + u) 0) else σ (8 + u) k
def gK (k : Nat) : Int32 := ([6, 16, 3, 3, 8, 1, 999, 99999] : List Int32).getD k 0

set_option maxHeartbeats 4000000 in
set_option maxRecDepth 20000 in
theorem c_of (l : Launch) (G : GG) (σ : Sg) {N : Nat} (hN8 : N ≤ 8) (hN : σ 1 2 = nI N) (x a : Int32) : Ct l G mX7_of 2 shT [.ref (ad G 0), .int x, .int a] σ (fun r τ => (¬ (umbP σ x ∧ withinP a 10) ∧ fQ σ 0 r τ) ∨ ∃ u k, u < N ∧ k < 11 ∧ x = nI u ∧ a = nI k ∧ τ = σ ∧ r = some (.int (ofF σ u k))) := by
  refine ct_intro (by decide) (Nat.le_of_ble_eq_true rfl) (fun X B R => ?_)
  show V X G shT σ [some (.ref (ad G 0)), some (.int x), some (.int a), none] [] 0
  refine r_aload_n (pc := 0) B dX7_of_0 rfl ?_
  refine r_iload_n (pc := 1) B dX7_of_1 rfl ?_
  refine r_cVi1 (pc := 2) B KX7_111 (c_isUmbrella l G _ _) rfl rfl (by decide) (Nat.le_of_ble_eq_true rfl) dX7_of_2 ?_
  refine r_if_eq (pc := 5) B 17 dX7_of_5 (by decide) (fun h5 => ?_) (fun h5 => ?_)
  · skip
    refine r_aload_n (pc := 17) B dX7_of_17 rfl ?_
    refine r_iconst (pc := 18) (x := 0) B dX7_of_18 (by decide) ?_
    refine r_cVi1 (pc := 19) B KX7_64 (c_finding l G _ 0 (ix_of 0 rfl)) rfl rfl (by decide) (Nat.le_of_ble_eq_true rfl) dX7_of_19 ?_
    exact r_iret (pc := 22) B R dX7_of_22 (Or.inl ⟨by first | exact fun q => bI_0.mp h5 q.1 | exact fun q => bI_0.mp h14 q.2, rfl, rfl⟩)
  · skip
    obtain ⟨u, hu1, hu2⟩ := umb_nI hN8 hN (bI_n.mp h5)
    refine r_iload_n (pc := 8) B dX7_of_8 rfl ?_
    refine r_bipush (pc := 9) (x := 10) B dX7_of_9 (by decide) ?_
    refine r_cSi2 (pc := 11) B KX7_83 (c_isWithin l G _ _ _ _) (by decide) (Nat.le_of_ble_eq_true rfl) dX7_of_11 ?_
    refine r_if_ne (pc := 14) B 23 dX7_of_14 (by decide) (fun h14 => ?_) (fun h14 => ?_)
    · skip
      obtain ⟨k, hk1, hk2⟩ := wi_nI (g := 10) (by omega) (bI_n.mp h14)
      refine r_aload_n (pc := 23) B dX7_of_23 rfl ?_
      refine r_getr (pc := 24) B FX7_10 rfl rfl dX7_of_24 ?_
      refine r_getr (pc := 27) B FX7_114 rfl rfl dX7_of_27 ?_
      refine r_iload_n (pc := 30) B dX7_of_30 rfl ?_
      refine r_aald (pc := 31) B rfl rfl (ix_eq (N := 8) hu2 (by omega) (by decide)) (el_1 (by omega)) dX7_of_31 ?_
      refine r_astore_3 (pc := 32) B dX7_of_32 (by decide) rfl ?_
      refine r_iload_n (pc := 33) B dX7_of_33 rfl ?_
      refine r_tsC (pc := 34) B 8 60 dX7_of_34 (by decide) (by decide) rfl (by decide) (fun h34_8 => ?_) (fun h34_8 => ?_)
      · skip
        refine r_aload_n (pc := 60) B dX7_of_60 rfl ?_
        refine r_cVi0 (pc := 61) B KX7_118 (c_stiff l G _ (U8 (by omega))) (shU (U8 (by omega))) rfl (by decide) (Nat.le_of_ble_eq_true rfl) dX7_of_61 ?_
        exact r_iret (pc := 64) B R dX7_of_64 (Or.inr ⟨u, 8, hu1, by omega, hu2, h34_8, rfl, rfl⟩)
      refine r_tsC (pc := 34) B 9 65 dX7_of_34 (by decide) (by decide) rfl (by decide) (fun h34_9 => ?_) (fun h34_9 => ?_)
      · skip
        refine r_aload_n (pc := 65) B dX7_of_65 rfl ?_
        refine r_aload_n (pc := 66) B dX7_of_66 rfl ?_
        refine r_getr (pc := 67) B FX7_10 rfl rfl dX7_of_67 ?_
        refine r_getr (pc := 70) B FX7_68 rfl rfl dX7_of_70 ?_
        refine r_cVi1 (pc := 73) B KX7_124 (c_covers l G _ (U8 (by omega)) S2) (shU (U8 (by omega))) rfl (by decide) (Nat.le_of_ble_eq_true rfl) dX7_of_73 ?_
        exact r_iret (pc := 76) B R dX7_of_76 (Or.inr ⟨u, 9, hu1, by omega, hu2, h34_9, rfl, rfl⟩)
      refine r_tsC (pc := 34) B 10 77 dX7_of_34 (by decide) (by decide) rfl (by decide) (fun h34_10 => ?_) (fun h34_10 => ?_)
      · skip
        refine r_aload_n (pc := 77) B dX7_of_77 rfl ?_
        refine r_aload_n (pc := 78) B dX7_of_78 rfl ?_
        refine r_getr (pc := 79) B FX7_10 rfl rfl dX7_of_79 ?_
        refine r_getr (pc := 82) B FX7_68 rfl rfl dX7_of_82 ?_
        refine r_geti (pc := 85) B FX7_128 rfl rfl dX7_of_85 ?_
        refine r_cVi1 (pc := 88) B KX7_131 (c_pace l G _ (U8 (by omega)) _) (shU (U8 (by omega))) rfl (by decide) (Nat.le_of_ble_eq_true rfl) dX7_of_88 ?_
        exact r_iret (pc := 91) B R dX7_of_91 (Or.inr ⟨u, 10, hu1, by omega, hu2, h34_10, rfl, rfl⟩)
      refine r_tsD (pc := 34) B 92 dX7_of_34 (by have e0 := ts_in (c := 8) h34_8 rfl; have e1 := ts_in (c := 9) h34_9 rfl; have e2 := ts_in (c := 10) h34_10 rfl; omega) (by decide) ?_
      refine r_aload_n (pc := 92) B dX7_of_92 rfl ?_
      refine r_iload_n (pc := 93) B dX7_of_93 rfl ?_
      rw [hk2] at h34_8 h34_9 h34_10
      have n8 := nI_nis (c := 8) h34_8 rfl
      have n9 := nI_nis (c := 9) h34_9 rfl
      have n10 := nI_nis (c := 10) h34_10 rfl
      rw [hk2]
      refine r_cVi1 (pc := 94) B KX7_134 (c_mark l G _ (U8 (by omega)) (by omega)) (shU (U8 (by omega))) rfl (by decide) (Nat.le_of_ble_eq_true rfl) dX7_of_94 ?_
      exact r_iret (pc := 97) B R dX7_of_97 (Or.inr ⟨u, k, hu1, by omega, hu2, hk2, rfl, by rw [ofF, if_neg n8, if_neg n9, if_neg n10]⟩)
    · skip
      refine r_aload_n (pc := 17) B dX7_of_17 rfl ?_
      refine r_iconst (pc := 18) (x := 0) B dX7_of_18 (by decide) ?_
      refine r_cVi1 (pc := 19) B KX7_64 (c_finding l G _ 0 (ix_of 0 rfl)) rfl rfl (by decide) (Nat.le_of_ble_eq_true rfl) dX7_of_19 ?_
      exact r_iret (pc := 22) B R dX7_of_22 (Or.inl ⟨by first | exact fun q => bI_0.mp h5 q.1 | exact fun q => bI_0.mp h14 q.2, rfl, rfl⟩)
set_option maxHeartbeats 4000000 in
set_option maxRecDepth 20000 in
theorem c_change (l : Launch) (G : GG) (σ : Sg) {N : Nat} (hN8 : N ≤ 8) (hN : σ 1 2 = nI N) (x a v : Int32) : Ct l G mX7_change 1 shT [.ref (ad G 0), .int x, .int a, .int v] σ (fun r τ => (¬ (umbP σ x ∧ withinP a 7 ∧ withinP v (gK a.toNatClampNeg)) ∧ fQ σ 0 r τ) ∨ ∃ u k, u < N ∧ k < 8 ∧ x = nI u ∧ a = nI k ∧ withinP v (gK k) ∧ r = some (.int (σ (8 + u) k)) ∧ τ = st2 σ (8 + u) k v) := by
  refine ct_intro (by decide) (Nat.le_of_ble_eq_true rfl) (fun X B R => ?_)
  show V X G shT σ [some (.ref (ad G 0)), some (.int x), some (.int a), some (.int v), none, none] [] 0
  refine r_aload_n (pc := 0) B dX7_change_0 rfl ?_
  refine r_iload_n (pc := 1) B dX7_change_1 rfl ?_
  refine r_cVi1 (pc := 2) B KX7_111 (c_isUmbrella l G _ _) rfl rfl (by decide) (Nat.le_of_ble_eq_true rfl) dX7_change_2 ?_
  refine r_if_eq (pc := 5) B 29 dX7_change_5 (by decide) (fun h5 => ?_) (fun h5 => ?_)
  · skip
    refine r_aload_n (pc := 29) B dX7_change_29 rfl ?_
    refine r_iconst (pc := 30) (x := 0) B dX7_change_30 (by decide) ?_
    refine r_cVi1 (pc := 31) B KX7_64 (c_finding l G _ 0 (ix_of 0 rfl)) rfl rfl (by decide) (Nat.le_of_ble_eq_true rfl) dX7_change_31 ?_
    exact r_iret (pc := 34) B R dX7_change_34 (Or.inl ⟨by first | exact fun q => bI_0.mp h5 q.1 | exact fun q => bI_0.mp h14 q.2.1 | exact fun q => bI_0.mp h26 (by rw [← hk3]; exact q.2.2), rfl, rfl⟩)
  · skip
    obtain ⟨u, hu1, hu2⟩ := umb_nI hN8 hN (bI_n.mp h5)
    refine r_iload_n (pc := 8) B dX7_change_8 rfl ?_
    refine r_bipush (pc := 9) (x := 7) B dX7_change_9 (by decide) ?_
    refine r_cSi2 (pc := 11) B KX7_83 (c_isWithin l G _ _ _ _) (by decide) (Nat.le_of_ble_eq_true rfl) dX7_change_11 ?_
    refine r_if_eq (pc := 14) B 29 dX7_change_14 (by decide) (fun h14 => ?_) (fun h14 => ?_)
    · skip
      refine r_aload_n (pc := 29) B dX7_change_29 rfl ?_
      refine r_iconst (pc := 30) (x := 0) B dX7_change_30 (by decide) ?_
      refine r_cVi1 (pc := 31) B KX7_64 (c_finding l G _ 0 (ix_of 0 rfl)) rfl rfl (by decide) (Nat.le_of_ble_eq_true rfl) dX7_change_31 ?_
      exact r_iret (pc := 34) B R dX7_change_34 (Or.inl ⟨by first | exact fun q => bI_0.mp h5 q.1 | exact fun q => bI_0.mp h14 q.2.1 | exact fun q => bI_0.mp h26 (by rw [← hk3]; exact q.2.2), rfl, rfl⟩)
    · skip
      obtain ⟨k, hk1, hk2⟩ := wi_nI (g := 7) (by omega) (bI_n.mp h14)
      have hk3 : a.toNatClampNeg = k := by rw [hk2]; exact nI_clamp (by omega)
      refine r_iload_n (pc := 17) B dX7_change_17 rfl ?_
      refine r_gs (pc := 18) B q330 dX7_change_18 ?_
      refine r_iload_n (pc := 21) B dX7_change_21 rfl ?_
      refine r_tg (pc := 22) (v := gK k) B k (ix_eq hk2 (by omega) (by decide)) rfl dX7_change_22 ?_
      refine r_cSi2 (pc := 23) B KX7_83 (c_isWithin l G _ _ _ _) (by decide) (Nat.le_of_ble_eq_true rfl) dX7_change_23 ?_
      refine r_if_ne (pc := 26) B 35 dX7_change_26 (by decide) (fun h26 => ?_) (fun h26 => ?_)
      · skip
        refine r_aload_n (pc := 35) B dX7_change_35 rfl ?_
        refine r_getr (pc := 36) B FX7_10 rfl rfl dX7_change_36 ?_
        refine r_getr (pc := 39) B FX7_114 rfl rfl dX7_change_39 ?_
        refine r_iload_n (pc := 42) B dX7_change_42 rfl ?_
        refine r_aald (pc := 43) B rfl rfl (ix_eq (N := 8) hu2 (by omega) (by decide)) (el_1 (by omega)) dX7_change_43 ?_
        refine r_astore_4 (pc := 44) B dX7_change_44 (by decide) rfl ?_
        refine r_aload (pc := 46) B dX7_change_46 rfl ?_
        refine r_iload_n (pc := 48) B dX7_change_48 rfl ?_
        rw [hk2]
        refine r_cVi1 (pc := 49) B KX7_134 (c_mark l G _ (U8 (by omega)) (by omega)) (shU (U8 (by omega))) rfl (by decide) (Nat.le_of_ble_eq_true rfl) dX7_change_49 ?_
        refine r_istore_5 (pc := 52) B dX7_change_52 (by decide) rfl ?_
        refine r_aload (pc := 54) B dX7_change_54 rfl ?_
        refine r_iload_n (pc := 56) B dX7_change_56 rfl ?_
        refine r_iload_n (pc := 57) B dX7_change_57 rfl ?_
        refine r_cVv2 (pc := 58) B KX7_140 (c_setMark l G _ (U8 (by omega)) (by omega) _) (shU (U8 (by omega))) rfl (by decide) (Nat.le_of_ble_eq_true rfl) dX7_change_58 ?_
        refine r_iload (pc := 61) B dX7_change_61 rfl ?_
        exact r_iret (pc := 63) B R dX7_change_63 (Or.inr ⟨u, k, hu1, by omega, hu2, hk2, bI_n.mp h26, rfl, rfl⟩)
      · skip
        refine r_aload_n (pc := 29) B dX7_change_29 rfl ?_
        refine r_iconst (pc := 30) (x := 0) B dX7_change_30 (by decide) ?_
        refine r_cVi1 (pc := 31) B KX7_64 (c_finding l G _ 0 (ix_of 0 rfl)) rfl rfl (by decide) (Nat.le_of_ble_eq_true rfl) dX7_change_31 ?_
        exact r_iret (pc := 34) B R dX7_change_34 (Or.inl ⟨by first | exact fun q => bI_0.mp h5 q.1 | exact fun q => bI_0.mp h14 q.2.1 | exact fun q => bI_0.mp h26 (by rw [← hk3]; exact q.2.2), rfl, rfl⟩)
set_option maxHeartbeats 4000000 in
set_option maxRecDepth 20000 in
theorem c_bears (l : Launch) (G : GG) (σ : Sg) {N : Nat} (hN8 : N ≤ 8) (hN : σ 1 2 = nI N) (x p h : Int32) : Ct l G mX7_bears 2 shT [.ref (ad G 0), .int x, .int p, .int h] σ (fun r τ => (¬ (umbP σ x ∧ stepP p ∧ withinP h 2) ∧ fQ σ 0 r τ) ∨ ∃ u j, u < N ∧ j < 16 ∧ x = nI u ∧ p = nI j ∧ withinP h 2 ∧ τ = σ ∧ r = some (.int (bearF (stiffF (σ (8 + u))) (σ 3 j) h))) := by
  refine ct_intro (by decide) (Nat.le_of_ble_eq_true rfl) (fun X B R => ?_)
  show V X G shT σ [some (.ref (ad G 0)), some (.int x), some (.int p), some (.int h), none] [] 0
  refine r_aload_n (pc := 0) B dX7_bears_0 rfl ?_
  refine r_iload_n (pc := 1) B dX7_bears_1 rfl ?_
  refine r_cVi1 (pc := 2) B KX7_111 (c_isUmbrella l G _ _) rfl rfl (by decide) (Nat.le_of_ble_eq_true rfl) dX7_bears_2 ?_
  refine r_if_eq (pc := 5) B 23 dX7_bears_5 (by decide) (fun h5 => ?_) (fun h5 => ?_)
  · skip
    refine r_aload_n (pc := 23) B dX7_bears_23 rfl ?_
    refine r_iconst (pc := 24) (x := 0) B dX7_bears_24 (by decide) ?_
    refine r_cVi1 (pc := 25) B KX7_64 (c_finding l G _ 0 (ix_of 0 rfl)) rfl rfl (by decide) (Nat.le_of_ble_eq_true rfl) dX7_bears_25 ?_
    exact r_iret (pc := 28) B R dX7_bears_28 (Or.inl ⟨by first | exact fun q => bI_0.mp h5 q.1 | exact fun q => bI_0.mp h12 q.2.1 | exact fun q => bI_0.mp h20 q.2.2, rfl, rfl⟩)
  · skip
    obtain ⟨u, hu1, hu2⟩ := umb_nI hN8 hN (bI_n.mp h5)
    refine r_iload_n (pc := 8) B dX7_bears_8 rfl ?_
    refine r_cSi1 (pc := 9) B KX7_60 (c_isStep l G _ _ _) (by decide) (Nat.le_of_ble_eq_true rfl) dX7_bears_9 ?_
    refine r_if_eq (pc := 12) B 23 dX7_bears_12 (by decide) (fun h12 => ?_) (fun h12 => ?_)
    · skip
      refine r_aload_n (pc := 23) B dX7_bears_23 rfl ?_
      refine r_iconst (pc := 24) (x := 0) B dX7_bears_24 (by decide) ?_
      refine r_cVi1 (pc := 25) B KX7_64 (c_finding l G _ 0 (ix_of 0 rfl)) rfl rfl (by decide) (Nat.le_of_ble_eq_true rfl) dX7_bears_25 ?_
      exact r_iret (pc := 28) B R dX7_bears_28 (Or.inl ⟨by first | exact fun q => bI_0.mp h5 q.1 | exact fun q => bI_0.mp h12 q.2.1 | exact fun q => bI_0.mp h20 q.2.2, rfl, rfl⟩)
    · skip
      obtain ⟨j, hj, hx⟩ := stepP_nI (bI_n.mp h12)
      refine r_iload_n (pc := 15) B dX7_bears_15 rfl ?_
      refine r_iconst (pc := 16) (x := 2) B dX7_bears_16 (by decide) ?_
      refine r_cSi2 (pc := 17) B KX7_83 (c_isWithin l G _ _ _ _) (by decide) (Nat.le_of_ble_eq_true rfl) dX7_bears_17 ?_
      refine r_if_ne (pc := 20) B 29 dX7_bears_20 (by decide) (fun h20 => ?_) (fun h20 => ?_)
      · skip
        refine r_aload_n (pc := 29) B dX7_bears_29 rfl ?_
        refine r_getr (pc := 30) B FX7_10 rfl rfl dX7_bears_30 ?_
        refine r_getr (pc := 33) B FX7_114 rfl rfl dX7_bears_33 ?_
        refine r_iload_n (pc := 36) B dX7_bears_36 rfl ?_
        refine r_aald (pc := 37) B rfl rfl (ix_eq (N := 8) hu2 (by omega) (by decide)) (el_1 (by omega)) dX7_bears_37 ?_
        refine r_cVi0 (pc := 38) B KX7_118 (c_stiff l G _ (U8 (by omega))) (shU (U8 (by omega))) rfl (by decide) (Nat.le_of_ble_eq_true rfl) dX7_bears_38 ?_
        refine r_istore_4 (pc := 41) B dX7_bears_41 (by decide) rfl ?_
        refine r_iload (pc := 43) B dX7_bears_43 rfl ?_
        refine r_aload_n (pc := 45) B dX7_bears_45 rfl ?_
        refine r_getr (pc := 46) B FX7_10 rfl rfl dX7_bears_46 ?_
        refine r_getr (pc := 49) B FX7_68 rfl rfl dX7_bears_49 ?_
        refine r_getr (pc := 52) B FX7_72 rfl rfl dX7_bears_52 ?_
        refine r_iload_n (pc := 55) B dX7_bears_55 rfl ?_
        refine r_iald (pc := 56) B rfl (ix_eq hx hj (by decide)) dX7_bears_56 ?_
        refine r_iload_n (pc := 57) B dX7_bears_57 rfl ?_
        refine r_cSi3 (pc := 58) B KX7_144 (c_bearable l G _ _ _ _ _) (by decide) (Nat.le_of_ble_eq_true rfl) dX7_bears_58 ?_
        exact r_iret (pc := 61) B R dX7_bears_61 (Or.inr ⟨u, j, hu1, hj, hu2, hx, bI_n.mp h20, rfl, rfl⟩)
      · skip
        refine r_aload_n (pc := 23) B dX7_bears_23 rfl ?_
        refine r_iconst (pc := 24) (x := 0) B dX7_bears_24 (by decide) ?_
        refine r_cVi1 (pc := 25) B KX7_64 (c_finding l G _ 0 (ix_of 0 rfl)) rfl rfl (by decide) (Nat.le_of_ble_eq_true rfl) dX7_bears_25 ?_
        exact r_iret (pc := 28) B R dX7_bears_28 (Or.inl ⟨by first | exact fun q => bI_0.mp h5 q.1 | exact fun q => bI_0.mp h12 q.2.1 | exact fun q => bI_0.mp h20 q.2.2, rfl, rfl⟩)
/-- n TICKS of a world -/
def tkN (w : Nat → Int32) (N : Nat) : Nat → (Nat → Int32)
  | 0 => w
  | n + 1 => tickV (tkN w N n) N
theorem tk_0 {w : Nat → Int32} {N : Nat} : ∀ n, tkN w N n 0 = w 0
  | 0 => rfl
  | n + 1 => by rw [tkN, tickV, upd, if_neg (by decide), goN_lo (by omega), tk_0 n]
theorem goV_congr {w x : Nat → Int32} {u : Nat} (hu : u < 8) (h : ∀ j, j < 127 → w j = x j) : (∀ j, j < 127 → goV w u j = goV x u j) ∧ (gsP w u ↔ gsP x u) := by
  have e1 := h (53 + 8 * u + 1) (by omega)
  by_cases hs : stepP (x (53 + 8 * u + 1))
  · obtain ⟨j, hj, ha⟩ := stepP_nI hs
    have hn : (nI j).toNatClampNeg = j := nI_clamp (by omega)
    have hjn := jn_lt j
    have c := goU_congr (fr := fun k => w (5 + k)) (sn := fun k => w (21 + k)) (ro := fun k => w (37 + k)) (fr' := fun k => x (5 + k)) (sn' := fun k => x (21 + k)) (ro' := fun k => x (37 + k)) (rain := x 3) (g := x 4) (t := x 1) (u := um w u) (u' := um x u) (j := j) (h _ (by omega)) (h _ (by omega)) (h _ (by omega)) (h _ (by omega)) (fun i hi => h _ (by omega))
    refine ⟨fun k hk => ?_, ?_⟩
    · rw [goV, goV, e1, if_pos hs, if_pos hs]
      simp only [putU]
      by_cases q : 53 + 8 * u ≤ k ∧ k < 53 + 8 * u + 8
      · rw [if_pos q, if_pos q]
        simp only [goW]
        rw [h 3 (by omega), h 4 (by omega), h 1 (by omega), ha, hn]
        exact c.1 _ (by omega)
      · rw [if_neg q, if_neg q]; exact h k hk
    · unfold gsP goG
      rw [e1, h 4 (by omega), h 1 (by omega), ha, hn, c.2.1, c.2.2]
      rw [show um w u 5 = um x u 5 from h _ (by omega)]
  · refine ⟨fun k hk => ?_, ?_⟩
    · rw [goV, goV, e1, if_neg hs, if_neg hs]; exact h k hk
    · unfold gsP
      rw [e1]
      exact ⟨fun z => absurd z.1 hs, fun z => absurd z.1 hs⟩
theorem goN_congr {w x : Nat → Int32} (h : ∀ j, j < 127 → w j = x j) : ∀ n, n ≤ 8 → (∀ j, j < 127 → goN w n j = goN x n j) ∧ cntN w n = cntN x n
  | 0, _ => ⟨h, rfl⟩
  | n + 1, hn => by
    obtain ⟨h1, h2⟩ := goN_congr h n (by omega)
    obtain ⟨h3, h4⟩ := goV_congr (u := n) (by omega) h1
    exact ⟨h3, by rw [cntN, cntN, h2, gsP_iff h4]⟩
theorem tickV_congr {w x : Nat → Int32} {N : Nat} (hN : N ≤ 8) (h : ∀ j, j < 127 → w j = x j) : ∀ j, j < 127 → tickV w N j = tickV x N j := fun j hj => by
  obtain ⟨h1, -⟩ := goN_congr h N hN
  simp only [tickV, upd]
  rw [h1 1 (by omega), h1 j hj]
theorem tk_congr {w x : Nat → Int32} {N : Nat} (hN : N ≤ 8) (h : ∀ j, j < 127 → w j = x j) : ∀ n j, j < 127 → tkN w N n j = tkN x N n j
  | 0 => h
  | n + 1 => tickV_congr hN (tk_congr hN h n)
theorem isWr.cg {W : Nat} {σ τ : Sg} {w x : Nat → Int32} (h : isWr W σ τ w) (e : ∀ j, j < 127 → w j = x j) : isWr W σ τ x := ⟨fun j hj => (h.1 j hj).trans (e j hj), h.2⟩

set_option maxHeartbeats 4000000 in
set_option maxRecDepth 20000 in
theorem c_go (l : Launch) (G : GG) (σ : Sg) {N : Nat} (hN8 : N ≤ 8) (hN : σ 1 2 = nI N) (x : Int32) : Ct l G mX7_go 4 shT [.ref (ad G 0), .int x] σ (fun r τ => ((x < 1 ∨ ¬ x ≤ 60) ∧ fQ σ 0 r τ) ∨ (¬ x < 1 ∧ x ≤ 60 ∧ ¬ σ 2 5 + x ≤ 99999 ∧ fQ σ 4 r τ) ∨ (¬ x < 1 ∧ x ≤ 60 ∧ σ 2 5 + x ≤ 99999 ∧ isWr 1 σ τ (tkN (vw 1 σ) N x.toNatClampNeg) ∧ r = some (.int (orS (fun u => τ (8 + u) 1 = 16) (fun _ => inferInstance) N)))) := by
  refine ct_intro (by decide) (Nat.le_of_ble_eq_true rfl) (fun X B R => ?_)
  show V X G shT σ [some (.ref (ad G 0)), some (.int x), none] [] 0
  refine r_iload_n (pc := 0) B dX7_go_0 rfl ?_
  refine r_iconst (pc := 1) (x := 1) B dX7_go_1 (by decide) ?_
  refine r_icmp_lt (pc := 2) B 11 dX7_go_2 (by decide) (fun h2 => ?_) (fun h2 => ?_)
  · skip
    refine r_aload_n (pc := 11) B dX7_go_11 rfl ?_
    refine r_iconst (pc := 12) (x := 0) B dX7_go_12 (by decide) ?_
    refine r_cVi1 (pc := 13) B KX7_64 (c_finding l G _ 0 (ix_of 0 rfl)) rfl rfl (by decide) (Nat.le_of_ble_eq_true rfl) dX7_go_13 ?_
    exact r_iret (pc := 16) B R dX7_go_16 (Or.inl ⟨by first | exact Or.inl h2 | exact Or.inr h8, rfl, rfl⟩)
  · skip
    refine r_iload_n (pc := 5) B dX7_go_5 rfl ?_
    refine r_bipush (pc := 6) (x := 60) B dX7_go_6 (by decide) ?_
    refine r_icmp_le (pc := 8) B 17 dX7_go_8 (by decide) (fun h8 => ?_) (fun h8 => ?_)
    · skip
      refine r_aload_n (pc := 17) B dX7_go_17 rfl ?_
      refine r_getr (pc := 18) B FX7_10 rfl rfl dX7_go_18 ?_
      refine r_getr (pc := 21) B FX7_68 rfl rfl dX7_go_21 ?_
      refine r_geti (pc := 24) B FX7_128 rfl rfl dX7_go_24 ?_
      refine r_iload_n (pc := 27) B dX7_go_27 rfl ?_
      refine r_iadd (pc := 28) B dX7_go_28 ?_
      refine r_ldc (pc := 29) B q347 dX7_go_29 ?_
      refine r_icmp_le (pc := 31) B 40 dX7_go_31 (by decide) (fun h31 => ?_) (fun h31 => ?_)
      · skip
        obtain ⟨m, hm, hx⟩ : ∃ m, m ≤ 60 ∧ x = nI m := by
          obtain ⟨m, h9, rfl⟩ := nI_of (x := x) (fun q => h2 (by grind))
          exact ⟨m, (nI_leI (b := 60) h9 (by omega)).mp h8, rfl⟩
        refine r_iconst (pc := 40) (x := 0) B dX7_go_40 (by decide) ?_
        refine r_istore_2 (pc := 41) B dX7_go_41 (by decide) rfl ?_
        have hL42 : ∀ (n i : Nat) (ρ : Sg), i + n = m → isWr 1 σ ρ (tkN (vw 1 σ) N i) → V X G shT ρ [some (.ref (ad G 0)), some (.int x), some (.int (nI i))] [] 42 := by
          intro n
          induction n with
          | zero =>
            intro i ρ hi hw
            have ei : i = m := by omega
            subst ei
            have hz : ρ 1 2 = nI N := by rw [← vw_0 1 ρ, hw.1 0 (by omega), tk_0, vw_0, hN]
            refine r_iload_n (pc := 42) B dX7_go_42 rfl ?_
            refine r_iload_n (pc := 43) B dX7_go_43 rfl ?_
            refine r_icmp_ge (pc := 44) B 61 dX7_go_44 (by decide) (fun h44 => ?_) (fun h44 => ?_)
            · skip
              refine r_aload_n (pc := 61) B dX7_go_61 rfl ?_
              refine r_getr (pc := 62) B FX7_10 rfl rfl dX7_go_62 ?_
              refine r_iconst (pc := 65) (x := 1) B dX7_go_65 (by decide) ?_
              refine r_bipush (pc := 66) (x := 16) B dX7_go_66 (by decide) ?_
              refine r_cVi2 (pc := 68) B KX7_90 (c_setOf l G _ W1 (f := 1) hN8 hz (by omega) _) rfl rfl (by decide) (Nat.le_of_ble_eq_true rfl) dX7_go_68 ?_
              exact r_iret (pc := 71) B R dX7_go_71 (Or.inr (Or.inr ⟨h2, h8, h31, by rw [hx, nI_clamp (by omega)]; exact hw, rfl⟩))
            · skip
              exact absurd (by rw [hx]; exact (nI_leI (by omega) (by omega)).mpr (Nat.le_refl _)) h44
          | succ n ih =>
            intro i ρ hi hw
            have hz : ρ 1 2 = nI N := by rw [← vw_0 1 ρ, hw.1 0 (by omega), tk_0, vw_0, hN]
            refine r_iload_n (pc := 42) B dX7_go_42 rfl ?_
            refine r_iload_n (pc := 43) B dX7_go_43 rfl ?_
            refine r_icmp_ge (pc := 44) B 61 dX7_go_44 (by decide) (fun h44 => ?_) (fun h44 => ?_)
            · skip
              exact absurd ((nI_leI (a := m) (b := i) (by omega) (by omega)).mp (by rw [← hx]; exact h44)) (by omega)
            · skip
              refine r_aload_n (pc := 47) B dX7_go_47 rfl ?_
              refine r_getr (pc := 48) B FX7_10 rfl rfl dX7_go_48 ?_
              refine r_cVpi0 (pc := 51) B KX7_149 (c_passTick l G _ W1 hN8 hz) rfl rfl (by decide) (Nat.le_of_ble_eq_true rfl) dX7_go_51 (fun ρ2 hw2 => ?_)
              refine r_pop (pc := 54) B rfl dX7_go_54 ?_
              refine r_iinc_2 (pc := 55) (y := _ + 1) B dX7_go_55 rfl (by decide) rfl ?_
              refine r_goto (pc := 58) B 42 dX7_go_58 (by decide) ?_
              rw [nI_1]
              exact ih (i + 1) _ (by omega) (hw.tr (hw2.cg (tickV_congr hN8 hw.1)))
        exact hL42 m 0 σ (by omega) (isWr.rf 1 σ)
      · skip
        refine r_aload_n (pc := 34) B dX7_go_34 rfl ?_
        refine r_iconst (pc := 35) (x := 4) B dX7_go_35 (by decide) ?_
        refine r_cVi1 (pc := 36) B KX7_64 (c_finding l G _ 4 (ix_of 4 rfl)) rfl rfl (by decide) (Nat.le_of_ble_eq_true rfl) dX7_go_36 ?_
        exact r_iret (pc := 39) B R dX7_go_39 (Or.inr (Or.inl ⟨h2, h8, h31, rfl, rfl⟩))
    · skip
      refine r_aload_n (pc := 11) B dX7_go_11 rfl ?_
      refine r_iconst (pc := 12) (x := 0) B dX7_go_12 (by decide) ?_
      refine r_cVi1 (pc := 13) B KX7_64 (c_finding l G _ 0 (ix_of 0 rfl)) rfl rfl (by decide) (Nat.le_of_ble_eq_true rfl) dX7_go_13 ?_
      exact r_iret (pc := 16) B R dX7_go_16 (Or.inl ⟨by first | exact Or.inl h2 | exact Or.inr h8, rfl, rfl⟩)
def nowF (σ : Sg) (N k : Nat) : Int32 := if k = 0 then σ 2 5 else if k = 1 then sumS (fun u => σ (8 + u) 7) N else if k = 2 then orS (fun u => σ (8 + u) 1 = 16) (fun _ => inferInstance) N else if k = 3 then orS (fun u => σ (8 + u) 5 = 1) (fun _ => inferInstance) N else if k = 4 then sumS (fun u => σ (8 + u) 4) N else if k = 5 then orS (fun n => σ 5 n = 1) (fun _ => inferInstance) 16 else sumS (fun u => σ (8 + u) 6) N

set_option maxHeartbeats 4000000 in
set_option maxRecDepth 20000 in
theorem c_now (l : Launch) (G : GG) (σ : Sg) {N : Nat} (hN8 : N ≤ 8) (hN : σ 1 2 = nI N) (a : Int32) : Ct l G mX7_now 2 shT [.ref (ad G 0), .int a] σ (fun r τ => (¬ withinP a 6 ∧ fQ σ 0 r τ) ∨ ∃ k, k < 7 ∧ a = nI k ∧ τ = σ ∧ r = some (.int (nowF σ N k))) := by
  refine ct_intro (by decide) (Nat.le_of_ble_eq_true rfl) (fun X B R => ?_)
  show V X G shT σ [some (.ref (ad G 0)), some (.int a)] [] 0
  refine r_iload_n (pc := 0) B dX7_now_0 rfl ?_
  refine r_tsC (pc := 1) B 0 44 dX7_now_1 (by decide) (by decide) rfl (by decide) (fun h1_0 => ?_) (fun h1_0 => ?_)
  · skip
    refine r_aload_n (pc := 44) B dX7_now_44 rfl ?_
    refine r_getr (pc := 45) B FX7_10 rfl rfl dX7_now_45 ?_
    refine r_getr (pc := 48) B FX7_68 rfl rfl dX7_now_48 ?_
    refine r_geti (pc := 51) B FX7_128 rfl rfl dX7_now_51 ?_
    exact r_iret (pc := 54) B R dX7_now_54 (Or.inr ⟨0, by omega, h1_0, rfl, rfl⟩)
  refine r_tsC (pc := 1) B 1 55 dX7_now_1 (by decide) (by decide) rfl (by decide) (fun h1_1 => ?_) (fun h1_1 => ?_)
  · skip
    refine r_aload_n (pc := 55) B dX7_now_55 rfl ?_
    refine r_getr (pc := 56) B FX7_10 rfl rfl dX7_now_56 ?_
    refine r_bipush (pc := 59) (x := 7) B dX7_now_59 (by decide) ?_
    refine r_cVi1 (pc := 61) B KX7_152 (c_sumOf l G _ W1 (f := 7) hN8 hN (by omega)) rfl rfl (by decide) (Nat.le_of_ble_eq_true rfl) dX7_now_61 ?_
    exact r_iret (pc := 64) B R dX7_now_64 (Or.inr ⟨1, by omega, h1_1, rfl, rfl⟩)
  refine r_tsC (pc := 1) B 2 65 dX7_now_1 (by decide) (by decide) rfl (by decide) (fun h1_2 => ?_) (fun h1_2 => ?_)
  · skip
    refine r_aload_n (pc := 65) B dX7_now_65 rfl ?_
    refine r_getr (pc := 66) B FX7_10 rfl rfl dX7_now_66 ?_
    refine r_iconst (pc := 69) (x := 1) B dX7_now_69 (by decide) ?_
    refine r_bipush (pc := 70) (x := 16) B dX7_now_70 (by decide) ?_
    refine r_cVi2 (pc := 72) B KX7_90 (c_setOf l G _ W1 (f := 1) hN8 hN (by omega) _) rfl rfl (by decide) (Nat.le_of_ble_eq_true rfl) dX7_now_72 ?_
    exact r_iret (pc := 75) B R dX7_now_75 (Or.inr ⟨2, by omega, h1_2, rfl, rfl⟩)
  refine r_tsC (pc := 1) B 3 76 dX7_now_1 (by decide) (by decide) rfl (by decide) (fun h1_3 => ?_) (fun h1_3 => ?_)
  · skip
    refine r_aload_n (pc := 76) B dX7_now_76 rfl ?_
    refine r_getr (pc := 77) B FX7_10 rfl rfl dX7_now_77 ?_
    refine r_iconst (pc := 80) (x := 5) B dX7_now_80 (by decide) ?_
    refine r_iconst (pc := 81) (x := 1) B dX7_now_81 (by decide) ?_
    refine r_cVi2 (pc := 82) B KX7_90 (c_setOf l G _ W1 (f := 5) hN8 hN (by omega) _) rfl rfl (by decide) (Nat.le_of_ble_eq_true rfl) dX7_now_82 ?_
    exact r_iret (pc := 85) B R dX7_now_85 (Or.inr ⟨3, by omega, h1_3, rfl, rfl⟩)
  refine r_tsC (pc := 1) B 4 86 dX7_now_1 (by decide) (by decide) rfl (by decide) (fun h1_4 => ?_) (fun h1_4 => ?_)
  · skip
    refine r_aload_n (pc := 86) B dX7_now_86 rfl ?_
    refine r_getr (pc := 87) B FX7_10 rfl rfl dX7_now_87 ?_
    refine r_iconst (pc := 90) (x := 4) B dX7_now_90 (by decide) ?_
    refine r_cVi1 (pc := 91) B KX7_152 (c_sumOf l G _ W1 (f := 4) hN8 hN (by omega)) rfl rfl (by decide) (Nat.le_of_ble_eq_true rfl) dX7_now_91 ?_
    exact r_iret (pc := 94) B R dX7_now_94 (Or.inr ⟨4, by omega, h1_4, rfl, rfl⟩)
  refine r_tsC (pc := 1) B 5 95 dX7_now_1 (by decide) (by decide) rfl (by decide) (fun h1_5 => ?_) (fun h1_5 => ?_)
  · skip
    refine r_aload_n (pc := 95) B dX7_now_95 rfl ?_
    refine r_getr (pc := 96) B FX7_10 rfl rfl dX7_now_96 ?_
    refine r_getr (pc := 99) B FX7_68 rfl rfl dX7_now_99 ?_
    refine r_cVi0 (pc := 102) B KX7_155 (c_roofs l G _ S2) rfl rfl (by decide) (Nat.le_of_ble_eq_true rfl) dX7_now_102 ?_
    exact r_iret (pc := 105) B R dX7_now_105 (Or.inr ⟨5, by omega, h1_5, rfl, rfl⟩)
  refine r_tsC (pc := 1) B 6 106 dX7_now_1 (by decide) (by decide) rfl (by decide) (fun h1_6 => ?_) (fun h1_6 => ?_)
  · skip
    refine r_aload_n (pc := 106) B dX7_now_106 rfl ?_
    refine r_getr (pc := 107) B FX7_10 rfl rfl dX7_now_107 ?_
    refine r_bipush (pc := 110) (x := 6) B dX7_now_110 (by decide) ?_
    refine r_cVi1 (pc := 112) B KX7_152 (c_sumOf l G _ W1 (f := 6) hN8 hN (by omega)) rfl rfl (by decide) (Nat.le_of_ble_eq_true rfl) dX7_now_112 ?_
    exact r_iret (pc := 115) B R dX7_now_115 (Or.inr ⟨6, by omega, h1_6, rfl, rfl⟩)
  refine r_tsD (pc := 1) B 116 dX7_now_1 (by have e0 := ts_in (c := 0) h1_0 rfl; have e1 := ts_in (c := 1) h1_1 rfl; have e2 := ts_in (c := 2) h1_2 rfl; have e3 := ts_in (c := 3) h1_3 rfl; have e4 := ts_in (c := 4) h1_4 rfl; have e5 := ts_in (c := 5) h1_5 rfl; have e6 := ts_in (c := 6) h1_6 rfl; omega) (by decide) ?_
  refine r_aload_n (pc := 116) B dX7_now_116 rfl ?_
  refine r_iconst (pc := 117) (x := 0) B dX7_now_117 (by decide) ?_
  refine r_cVi1 (pc := 118) B KX7_64 (c_finding l G _ 0 (ix_of 0 rfl)) rfl rfl (by decide) (Nat.le_of_ble_eq_true rfl) dX7_now_118 ?_
  exact r_iret (pc := 121) B R dX7_now_121 (Or.inl ⟨fun q => by obtain ⟨k, hk, rfl⟩ := wi_nI (g := 6) (by omega) q; have := nI_nis (c := 0) h1_0 rfl; have := nI_nis (c := 1) h1_1 rfl; have := nI_nis (c := 2) h1_2 rfl; have := nI_nis (c := 3) h1_3 rfl; have := nI_nis (c := 4) h1_4 rfl; have := nI_nis (c := 5) h1_5 rfl; have := nI_nis (c := 6) h1_6 rfl; omega, rfl, rfl⟩)

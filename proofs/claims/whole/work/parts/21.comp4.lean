/-! sheets, spots, images -/
abbrev shP (x : Int32) : Prop := ¬ x < 0 ∧ ¬ 4 ≤ x
theorem sh_nI {x : Int32} (h : shP x) : ∃ s, s < 4 ∧ x = nI s := by
  obtain ⟨j, hj, rfl⟩ := nI_of h.1
  refine ⟨j, ?_, rfl⟩
  rcases Nat.lt_or_ge j 4 with q | q
  · exact q
  · exact absurd ((nI_leI (a := 4) (by omega) hj).mpr q) h.2
theorem sp_nI {x : Int32} (h : ¬ x < 0 ∧ ¬ 10 ≤ x) : ∃ s, s < 10 ∧ x = nI s := by
  obtain ⟨j, hj, rfl⟩ := nI_of h.1
  refine ⟨j, ?_, rfl⟩
  rcases Nat.lt_or_ge j 10 with q | q
  · exact q
  · exact absurd ((nI_leI (a := 10) (by omega) hj).mpr q) h.2
theorem H_s {s : Nat} (h : s < 4) : isH (57 + 2 * s) := by unfold isH; omega
theorem el_h {s : Nat} (h : s < 4) : ([some 57, some 59, some 61, some 63] : List (Option Nat))[s]? = some (some (57 + 2 * s)) := by
  match s, h with
  | 0, _ => rfl
  | 1, _ => rfl
  | 2, _ => rfl
  | 3, _ => rfl
  | s + 4, h => omega
/-- the sheets' sizes -/
abbrev szP (σ : Sg) : Prop := ∀ s, s < 4 → ∃ M, M ≤ 40 ∧ σ (57 + 2 * s) 2 = nI M

set_option maxHeartbeats 4000000 in
set_option maxRecDepth 20000 in
theorem c_fitting (l : Launch) (G : GG) (σ : Sg) {N : Nat} (hN8 : N ≤ 8) (hN : σ 1 2 = nI N) (hz : szP σ) (x y c : Int32) {M : Nat} (hM : M ≤ 16) (OP : Nat → Nat → OPT) (hc : chC l G σ N M c OP) (hsm : ∀ u n, ∃ q, OP u n = some q) (dd : ∀ (u s m n : Nat), Decidable (∃ q, OP u n = some q ∧ flN (wF q.1) (σ (58 + 2 * s)) m 0 q.2)) : Ct l G mX7_fitting 5 shT [.ref (ad G 0), .int x, .int y, .int c, .int (nI M)] σ (fun r τ => (¬ shP x ∧ fQ σ 0 r τ) ∨ ∃ s m, s < 4 ∧ x = nI s ∧ σ (57 + 2 * s) 2 = nI m ∧ m ≤ 40 ∧ ((σ (57 + 2 * s) 1 = 0 ∧ fQ σ 5 r τ) ∨ (¬ σ (57 + 2 * s) 1 = 0 ∧ ¬ umbP σ y ∧ fQ σ 0 r τ) ∨ (¬ σ (57 + 2 * s) 1 = 0 ∧ ∃ u, u < N ∧ y = nI u ∧ r = some (.int (orS (fun n => ∃ q, OP u n = some q ∧ flN (wF q.1) (σ (58 + 2 * s)) m 0 q.2) (dd u s m) M)) ∧ wkO σ τ))) := by
  refine ct_intro (by decide) (Nat.le_of_ble_eq_true rfl) (fun X B R => ?_)
  show V X G shT σ [some (.ref (ad G 0)), some (.int x), some (.int y), some (.int c), some (.int (nI M)), none, none] [] 0
  refine r_iload_n (pc := 0) B dX7_fitting_0 rfl ?_
  refine r_cSi1 (pc := 1) B KX7_229 (c_isSheet l G _ _ _) (by decide) (Nat.le_of_ble_eq_true rfl) dX7_fitting_1 ?_
  refine r_if_ne (pc := 4) B 13 dX7_fitting_4 (by decide) (fun h4 => ?_) (fun h4 => ?_)
  · skip
    obtain ⟨s, hs1, hs2⟩ := sh_nI (bI_n.mp h4)
    obtain ⟨m, hm1, hm2⟩ := hz s hs1
    refine r_aload_n (pc := 13) B dX7_fitting_13 rfl ?_
    refine r_getr (pc := 14) B FX7_51 rfl rfl dX7_fitting_14 ?_
    refine r_iload_n (pc := 17) B dX7_fitting_17 rfl ?_
    refine r_aald (pc := 18) B rfl rfl (ix_eq (N := 4) hs2 hs1 (by decide)) (el_h hs1) dX7_fitting_18 ?_
    refine r_cVi0 (pc := 19) B KX7_236 (c_isMissing l G _ (H_s hs1)) (shH (H_s hs1)) rfl (by decide) (Nat.le_of_ble_eq_true rfl) dX7_fitting_19 ?_
    refine r_if_eq (pc := 22) B 31 dX7_fitting_22 (by decide) (fun h22 => ?_) (fun h22 => ?_)
    · skip
      refine r_aload_n (pc := 31) B dX7_fitting_31 rfl ?_
      refine r_iload_n (pc := 32) B dX7_fitting_32 rfl ?_
      refine r_cVi1 (pc := 33) B KX7_111 (c_isUmbrella l G _ _) rfl rfl (by decide) (Nat.le_of_ble_eq_true rfl) dX7_fitting_33 ?_
      refine r_if_ne (pc := 36) B 45 dX7_fitting_36 (by decide) (fun h36 => ?_) (fun h36 => ?_)
      · skip
        obtain ⟨u, hu1, hu2⟩ := umb_nI hN8 hN (bI_n.mp h36)
        refine r_iconst (pc := 45) (x := 0) B dX7_fitting_45 (by decide) ?_
        refine r_istore_5 (pc := 46) B dX7_fitting_46 (by decide) rfl ?_
        refine r_iconst (pc := 48) (x := 0) B dX7_fitting_48 (by decide) ?_
        refine r_istore_6 (pc := 49) B dX7_fitting_49 (by decide) rfl ?_
        have hL51 : ∀ (n i : Nat) (q : Int32) (ρ : Sg), i + n = M → wkO σ ρ → q = orS (fun n => ∃ q, OP u n = some q ∧ flN (wF q.1) (σ (58 + 2 * s)) m 0 q.2) (dd u s m) i → V X G shT ρ [some (.ref (ad G 0)), some (.int x), some (.int y), some (.int c), some (.int (nI M)), some (.int q), some (.int (nI i))] [] 51 := by
          intro n
          induction n with
          | zero =>
            intro i q ρ hi hw hp
            have ei : i = M := by omega
            subst ei
            refine r_iload (pc := 51) B dX7_fitting_51 rfl ?_
            refine r_iload (pc := 53) B dX7_fitting_53 rfl ?_
            refine r_icmp_ge (pc := 55) B 107 dX7_fitting_55 (by decide) (fun h55 => ?_) (fun h55 => ?_)
            · skip
              refine r_iload (pc := 107) B dX7_fitting_107 rfl ?_
              exact r_iret (pc := 109) B R dX7_fitting_109 (Or.inr ⟨s, m, hs1, hs2, hm2, hm1, Or.inr (Or.inr ⟨bI_0.mp h22, u, hu1, hu2, by rw [hp], hw⟩)⟩)
            · skip
              exact absurd ((nI_leI (by omega) (by omega)).mpr (Nat.le_refl _)) h55
          | succ n ih =>
            intro i q ρ hi hw hp
            have hz1 : ρ 1 2 = nI N := by rw [hw 1 (by omega)]; exact hN
            have hcc := hc u i ρ hu1 (by omega) hw
            obtain ⟨y0, hO⟩ := hsm u i
            refine r_iload (pc := 51) B dX7_fitting_51 rfl ?_
            refine r_iload (pc := 53) B dX7_fitting_53 rfl ?_
            refine r_icmp_ge (pc := 55) B 107 dX7_fitting_55 (by decide) (fun h55 => ?_) (fun h55 => ?_)
            · skip
              exact absurd ((nI_leI (a := M) (b := i) (by omega) (by omega)).mp h55) (by omega)
            · skip
              refine r_aload_n (pc := 58) B dX7_fitting_58 rfl ?_
              refine r_iload_n (pc := 59) B dX7_fitting_59 rfl ?_
              rw [hu2]
              refine r_cVv1 (pc := 60) B KX7_158 (c_startWalk l G _ hN8 hz1 hu1) rfl rfl (by decide) (Nat.le_of_ble_eq_true rfl) dX7_fitting_60 ?_
              refine r_aload_n (pc := 63) B dX7_fitting_63 rfl ?_
              refine r_getr (pc := 64) B FX7_29 rfl rfl dX7_fitting_64 ?_
              refine r_iload_n (pc := 67) B dX7_fitting_67 rfl ?_
              refine r_iload (pc := 68) B dX7_fitting_68 rfl ?_
              refine r_cVpi2 (pc := 70) B KX7_268 hcc rfl rfl (by decide) (Nat.le_of_ble_eq_true rfl) dX7_fitting_70 (fun ρ1 hq => ?_)
              rw [← hu2]
              have e1 : ρ1 (57 + 2 * s) 2 = nI m := by rw [hq.1 (57 + 2 * s) (by omega)]; exact hm2
              have e2 : ρ1 (57 + 2 * s + 1) = σ (58 + 2 * s) := by rw [hq.1 (57 + 2 * s + 1) (by omega), show 57 + 2 * s + 1 = 58 + 2 * s by omega]
              refine r_if_eq (pc := 73) B 101 dX7_fitting_73 (by decide) (fun h73 => ?_) (fun h73 => ?_)
              · skip
                exact absurd (bI_0.mp h73) (by rw [hO]; simp)
              · skip
                refine r_aload_n (pc := 76) B dX7_fitting_76 rfl ?_
                refine r_getr (pc := 77) B FX7_29 rfl rfl dX7_fitting_77 ?_
                refine r_aload_n (pc := 80) B dX7_fitting_80 rfl ?_
                refine r_getr (pc := 81) B FX7_51 rfl rfl dX7_fitting_81 ?_
                refine r_iload_n (pc := 84) B dX7_fitting_84 rfl ?_
                refine r_aald (pc := 85) B rfl rfl (ix_eq (N := 4) hs2 hs1 (by decide)) (el_h hs1) dX7_fitting_85 ?_
                refine r_cVpi1 (pc := 86) B KX7_274 (c_flW l G (hq.2 y0 hO) (H_s hs1) hm1 e1) rfl rfl (by decide) (Nat.le_of_ble_eq_true rfl) dX7_fitting_86 (fun ρ2 hq2 => ?_)
                rw [e2]
                refine r_if_eq (pc := 89) B 101 dX7_fitting_89 (by decide) (fun h89 => ?_) (fun h89 => ?_)
                · skip
                  have hd : q = orS (fun n => ∃ q, OP u n = some q ∧ flN (wF q.1) (σ (58 + 2 * s)) m 0 q.2) (dd u s m) (i + 1) := by
                    rw [orS, if_neg, hp]
                    rintro ⟨y1, g1, g2⟩
                    rw [hO] at g1
                    cases g1
                    exact absurd h89 (by rw [flB_t g2]; decide)
                  refine r_iinc_6 (pc := 101) (y := _ + 1) B dX7_fitting_101 rfl (by decide) rfl ?_
                  refine r_goto (pc := 104) B 51 dX7_fitting_104 (by decide) ?_
                  rw [nI_1]
                  exact ih (i + 1) _ ρ2 (by omega) (hq.1.tr hq2) hd
                · skip
                  have hd : q ||| ((1 : Int32) <<< (nI i &&& 31)) = orS (fun n => ∃ q, OP u n = some q ∧ flN (wF q.1) (σ (58 + 2 * s)) m 0 q.2) (dd u s m) (i + 1) := by
                    rw [orS, if_pos, hp]
                    refine ⟨y0, hO, ?_⟩
                    exact Classical.byContradiction (fun z => h89 (flB_f z))
                  refine r_iload (pc := 92) B dX7_fitting_92 rfl ?_
                  refine r_iconst (pc := 94) (x := 1) B dX7_fitting_94 (by decide) ?_
                  refine r_iload (pc := 95) B dX7_fitting_95 rfl ?_
                  refine r_ishl (pc := 97) B dX7_fitting_97 ?_
                  refine r_ior (pc := 98) B dX7_fitting_98 ?_
                  refine r_istore_5 (pc := 99) B dX7_fitting_99 (by decide) rfl ?_
                  refine r_iinc_6 (pc := 101) (y := _ + 1) B dX7_fitting_101 rfl (by decide) rfl ?_
                  refine r_goto (pc := 104) B 51 dX7_fitting_104 (by decide) ?_
                  rw [nI_1]
                  exact ih (i + 1) _ ρ2 (by omega) (hq.1.tr hq2) hd
        exact hL51 M 0 0 σ (by omega) (wkO.rf σ) rfl
      · skip
        refine r_aload_n (pc := 39) B dX7_fitting_39 rfl ?_
        refine r_iconst (pc := 40) (x := 0) B dX7_fitting_40 (by decide) ?_
        refine r_cVi1 (pc := 41) B KX7_64 (c_finding l G _ 0 (ix_of 0 rfl)) rfl rfl (by decide) (Nat.le_of_ble_eq_true rfl) dX7_fitting_41 ?_
        exact r_iret (pc := 44) B R dX7_fitting_44 (Or.inr ⟨s, m, hs1, hs2, hm2, hm1, Or.inr (Or.inl ⟨bI_0.mp h22, fun q => bI_0.mp h36 q, rfl, rfl⟩)⟩)
    · skip
      refine r_aload_n (pc := 25) B dX7_fitting_25 rfl ?_
      refine r_iconst (pc := 26) (x := 5) B dX7_fitting_26 (by decide) ?_
      refine r_cVi1 (pc := 27) B KX7_64 (c_finding l G _ 5 (ix_of 5 rfl)) rfl rfl (by decide) (Nat.le_of_ble_eq_true rfl) dX7_fitting_27 ?_
      exact r_iret (pc := 30) B R dX7_fitting_30 (Or.inr ⟨s, m, hs1, hs2, hm2, hm1, Or.inl ⟨bI_n.mp h22, rfl, rfl⟩⟩)
  · skip
    refine r_aload_n (pc := 7) B dX7_fitting_7 rfl ?_
    refine r_iconst (pc := 8) (x := 0) B dX7_fitting_8 (by decide) ?_
    refine r_cVi1 (pc := 9) B KX7_64 (c_finding l G _ 0 (ix_of 0 rfl)) rfl rfl (by decide) (Nat.le_of_ble_eq_true rfl) dX7_fitting_9 ?_
    exact r_iret (pc := 12) B R dX7_fitting_12 (Or.inl ⟨fun q => bI_0.mp h4 q, rfl, rfl⟩)
noncomputable def flD (OP : Nat → Nat → OPT) (f : Nat → Nat → Int32) : ∀ (u s m n : Nat), Decidable (∃ q, OP u n = some q ∧ flN (wF q.1) (f s) m 0 q.2) := fun _ _ _ _ => Classical.propDecidable _
abbrev ftQ (σ : Sg) (N M : Nat) (OP : Nat → Nat → OPT) (x y : Int32) (r : Option Value) (τ : Sg) : Prop := (¬ shP x ∧ fQ σ 0 r τ) ∨ ∃ s m, s < 4 ∧ x = nI s ∧ σ (57 + 2 * s) 2 = nI m ∧ m ≤ 40 ∧ ((σ (57 + 2 * s) 1 = 0 ∧ fQ σ 5 r τ) ∨ (¬ σ (57 + 2 * s) 1 = 0 ∧ ¬ umbP σ y ∧ fQ σ 0 r τ) ∨ (¬ σ (57 + 2 * s) 1 = 0 ∧ ∃ u, u < N ∧ y = nI u ∧ r = some (.int (orS (fun n => ∃ q, OP u n = some q ∧ flN (wF q.1) (σ (58 + 2 * s)) m 0 q.2) (flD OP (fun s => σ (58 + 2 * s)) u s m) M)) ∧ wkO σ τ))

set_option maxHeartbeats 4000000 in
set_option maxRecDepth 20000 in
theorem c_fits (l : Launch) (G : GG) (σ : Sg) {N : Nat} (hN8 : N ≤ 8) (hN : σ 1 2 = nI N) (hz : szP σ) (x y : Int32) : Ct l G mX7_fits 6 shT [.ref (ad G 0), .int x, .int y] σ (ftQ σ N 4 (opM (vw 1 σ) 3) x y) := by
  refine ct_intro (by decide) (Nat.le_of_ble_eq_true rfl) (fun X B R => ?_)
  show V X G shT σ [some (.ref (ad G 0)), some (.int x), some (.int y)] [] 0
  refine r_aload_n (pc := 0) B dX7_fits_0 rfl ?_
  refine r_iload_n (pc := 1) B dX7_fits_1 rfl ?_
  refine r_iload_n (pc := 2) B dX7_fits_2 rfl ?_
  refine r_iconst (pc := 3) (x := 3) B dX7_fits_3 (by decide) ?_
  refine r_iconst (pc := 4) (x := 4) B dX7_fits_4 (by decide) ?_
  refine r_cV (pc := 5) (As := [.int x, .int y, .int (nI 3), .int (nI 4)]) (C := yX7_fitting.cls) B KX7_188 (c_fitting l G _ hN8 hN hz x y (nI 3) (M := 4) (by omega) (opM (vw 1 σ) 3) (ch_M l G hN8 (by omega)) (fun _ _ => ⟨_, rfl⟩) (flD (opM (vw 1 σ) 3) (fun s => σ (58 + 2 * s)))) (by decide) rfl rfl rfl (Nat.le_of_ble_eq_true rfl) dX7_fits_5 (fun r τ hq => ?_)
  have hr : ∃ v, r = some (.int v) := by rcases hq with ⟨-, h, -⟩ | ⟨s, m, -, -, -, -, ⟨-, h, -⟩ | ⟨-, -, h, -⟩ | ⟨-, u, -, -, h, -⟩⟩ <;> exact ⟨_, h⟩
  obtain ⟨v, rfl⟩ := hr
  exact r_iret (pc := 8) B R dX7_fits_8 hq
set_option maxHeartbeats 4000000 in
set_option maxRecDepth 20000 in
theorem c_kinds (l : Launch) (G : GG) (σ : Sg) {N : Nat} (hN8 : N ≤ 8) (hN : σ 1 2 = nI N) (hz : szP σ) (x y : Int32) : Ct l G mX7_kinds 6 shT [.ref (ad G 0), .int x, .int y] σ (ftQ σ N 7 (opM (vw 1 σ) 0) x y) := by
  refine ct_intro (by decide) (Nat.le_of_ble_eq_true rfl) (fun X B R => ?_)
  show V X G shT σ [some (.ref (ad G 0)), some (.int x), some (.int y)] [] 0
  refine r_aload_n (pc := 0) B dX7_kinds_0 rfl ?_
  refine r_iload_n (pc := 1) B dX7_kinds_1 rfl ?_
  refine r_iload_n (pc := 2) B dX7_kinds_2 rfl ?_
  refine r_iconst (pc := 3) (x := 0) B dX7_kinds_3 (by decide) ?_
  refine r_bipush (pc := 4) (x := 7) B dX7_kinds_4 (by decide) ?_
  refine r_cV (pc := 6) (As := [.int x, .int y, .int (nI 0), .int (nI 7)]) (C := yX7_fitting.cls) B KX7_188 (c_fitting l G _ hN8 hN hz x y (nI 0) (M := 7) (by omega) (opM (vw 1 σ) 0) (ch_M l G hN8 (by omega)) (fun _ _ => ⟨_, rfl⟩) (flD (opM (vw 1 σ) 0) (fun s => σ (58 + 2 * s)))) (by decide) rfl rfl rfl (Nat.le_of_ble_eq_true rfl) dX7_kinds_6 (fun r τ hq => ?_)
  have hr : ∃ v, r = some (.int v) := by rcases hq with ⟨-, h, -⟩ | ⟨s, m, -, -, -, -, ⟨-, h, -⟩ | ⟨-, -, h, -⟩ | ⟨-, u, -, -, h, -⟩⟩ <;> exact ⟨_, h⟩
  obtain ⟨v, rfl⟩ := hr
  exact r_iret (pc := 9) B R dX7_kinds_9 hq
set_option maxHeartbeats 4000000 in
set_option maxRecDepth 20000 in
theorem c_hold (l : Launch) (G : GG) (σ : Sg) (x y : Int32) : Ct l G mX7_hold 1 shT [.ref (ad G 0), .int x, .int y] σ (fun r τ => (¬ (withinP x 9 ∧ (y = -1 ∨ umbP σ y)) ∧ fQ σ 0 r τ) ∨ ∃ s, s < 10 ∧ x = nI s ∧ (y = -1 ∨ umbP σ y) ∧ r = some (.int 1) ∧ τ = st2 σ 7 s y) := by
  have hk : (¬ x < 0 ∧ ¬ 10 ≤ x) ↔ withinP x 9 := ⟨fun q => ⟨q.1, fun z => q.2 (by grind)⟩, fun q => ⟨q.1, fun z => q.2 (by grind)⟩⟩
  refine ct_intro (by decide) (Nat.le_of_ble_eq_true rfl) (fun X B R => ?_)
  show V X G shT σ [some (.ref (ad G 0)), some (.int x), some (.int y)] [] 0
  refine r_iload_n (pc := 0) B dX7_hold_0 rfl ?_
  refine r_cSi1 (pc := 1) B KX7_217 (c_isSpot l G _ _ _) (by decide) (Nat.le_of_ble_eq_true rfl) dX7_hold_1 ?_
  refine r_if_eq (pc := 4) B 20 dX7_hold_4 (by decide) (fun h4 => ?_) (fun h4 => ?_)
  · skip
    refine r_aload_n (pc := 20) B dX7_hold_20 rfl ?_
    refine r_iconst (pc := 21) (x := 0) B dX7_hold_21 (by decide) ?_
    refine r_cVi1 (pc := 22) B KX7_64 (c_finding l G _ 0 (ix_of 0 rfl)) rfl rfl (by decide) (Nat.le_of_ble_eq_true rfl) dX7_hold_22 ?_
    exact r_iret (pc := 25) B R dX7_hold_25 (Or.inl ⟨by first | exact fun q => bI_0.mp h4 (hk.mpr q.1) | exact fun q => q.2.elim h9 (fun z => bI_0.mp h17 z), rfl, rfl⟩)
  · skip
    obtain ⟨s, hs1, hs2⟩ := sp_nI (bI_n.mp h4)
    refine r_iload_n (pc := 7) B dX7_hold_7 rfl ?_
    refine r_iconst (pc := 8) (x := (-1)) B dX7_hold_8 (by decide) ?_
    refine r_icmp_eq (pc := 9) B 26 dX7_hold_9 (by decide) (fun h9 => ?_) (fun h9 => ?_)
    · skip
      refine r_aload_n (pc := 26) B dX7_hold_26 rfl ?_
      refine r_getr (pc := 27) B FX7_10 rfl rfl dX7_hold_27 ?_
      refine r_getr (pc := 30) B FX7_220 rfl rfl dX7_hold_30 ?_
      refine r_iload_n (pc := 33) B dX7_hold_33 rfl ?_
      refine r_iload_n (pc := 34) B dX7_hold_34 rfl ?_
      refine r_iast (pc := 35) B rfl (ix_eq hs2 hs1 (by decide)) dX7_hold_35 ?_
      refine r_iconst (pc := 36) (x := 1) B dX7_hold_36 (by decide) ?_
      exact r_iret (pc := 37) B R dX7_hold_37 (Or.inr ⟨s, hs1, hs2, by first | exact Or.inl h9 | exact Or.inr (bI_n.mp h17), rfl, rfl⟩)
    · skip
      refine r_aload_n (pc := 12) B dX7_hold_12 rfl ?_
      refine r_iload_n (pc := 13) B dX7_hold_13 rfl ?_
      refine r_cVi1 (pc := 14) B KX7_111 (c_isUmbrella l G _ _) rfl rfl (by decide) (Nat.le_of_ble_eq_true rfl) dX7_hold_14 ?_
      refine r_if_ne (pc := 17) B 26 dX7_hold_17 (by decide) (fun h17 => ?_) (fun h17 => ?_)
      · skip
        refine r_aload_n (pc := 26) B dX7_hold_26 rfl ?_
        refine r_getr (pc := 27) B FX7_10 rfl rfl dX7_hold_27 ?_
        refine r_getr (pc := 30) B FX7_220 rfl rfl dX7_hold_30 ?_
        refine r_iload_n (pc := 33) B dX7_hold_33 rfl ?_
        refine r_iload_n (pc := 34) B dX7_hold_34 rfl ?_
        refine r_iast (pc := 35) B rfl (ix_eq hs2 hs1 (by decide)) dX7_hold_35 ?_
        refine r_iconst (pc := 36) (x := 1) B dX7_hold_36 (by decide) ?_
        exact r_iret (pc := 37) B R dX7_hold_37 (Or.inr ⟨s, hs1, hs2, by first | exact Or.inl h9 | exact Or.inr (bI_n.mp h17), rfl, rfl⟩)
      · skip
        refine r_aload_n (pc := 20) B dX7_hold_20 rfl ?_
        refine r_iconst (pc := 21) (x := 0) B dX7_hold_21 (by decide) ?_
        refine r_cVi1 (pc := 22) B KX7_64 (c_finding l G _ 0 (ix_of 0 rfl)) rfl rfl (by decide) (Nat.le_of_ble_eq_true rfl) dX7_hold_22 ?_
        exact r_iret (pc := 25) B R dX7_hold_25 (Or.inl ⟨by first | exact fun q => bI_0.mp h4 (hk.mpr q.1) | exact fun q => q.2.elim h9 (fun z => bI_0.mp h17 z), rfl, rfl⟩)
noncomputable def unD (k a : Int32) : Decidable (unN 7 k a) := Classical.propDecidable _

set_option maxHeartbeats 4000000 in
set_option maxRecDepth 20000 in
theorem c_as (l : Launch) (G : GG) (σ : Sg) {N : Nat} (hN8 : N ≤ 8) (hN : σ 1 2 = nI N) (x y : Int32) : Ct l G mX7_as 2 shT [.ref (ad G 0), .int x, .int y] σ (fun r τ => (¬ (withinP x 9 ∧ withinP y 6) ∧ fQ σ 0 r τ) ∨ ∃ s, s < 10 ∧ x = nI s ∧ withinP y 6 ∧ ((¬ umbP σ (σ 7 s) ∧ fQ σ 5 r τ) ∨ ∃ u, u < N ∧ σ 7 s = nI u ∧ ((unN 7 (σ (8 + u) 0) y ∧ r = some (.int (nI u)) ∧ τ = σ) ∨ (¬ unN 7 (σ (8 + u) 0) y ∧ fQ σ 2 r τ)))) := by
  have hk : (¬ x < 0 ∧ ¬ 10 ≤ x) ↔ withinP x 9 := ⟨fun q => ⟨q.1, fun z => q.2 (by grind)⟩, fun q => ⟨q.1, fun z => q.2 (by grind)⟩⟩
  have hk2 : (¬ y < 0 ∧ ¬ 7 ≤ y) ↔ withinP y 6 := ⟨fun q => ⟨q.1, fun z => q.2 (by grind)⟩, fun q => ⟨q.1, fun z => q.2 (by grind)⟩⟩
  refine ct_intro (by decide) (Nat.le_of_ble_eq_true rfl) (fun X B R => ?_)
  show V X G shT σ [some (.ref (ad G 0)), some (.int x), some (.int y), none] [] 0
  refine r_iload_n (pc := 0) B dX7_as_0 rfl ?_
  refine r_cSi1 (pc := 1) B KX7_217 (c_isSpot l G _ _ _) (by decide) (Nat.le_of_ble_eq_true rfl) dX7_as_1 ?_
  refine r_if_eq (pc := 4) B 14 dX7_as_4 (by decide) (fun h4 => ?_) (fun h4 => ?_)
  · skip
    refine r_aload_n (pc := 14) B dX7_as_14 rfl ?_
    refine r_iconst (pc := 15) (x := 0) B dX7_as_15 (by decide) ?_
    refine r_cVi1 (pc := 16) B KX7_64 (c_finding l G _ 0 (ix_of 0 rfl)) rfl rfl (by decide) (Nat.le_of_ble_eq_true rfl) dX7_as_16 ?_
    exact r_iret (pc := 19) B R dX7_as_19 (Or.inl ⟨by first | exact fun q => bI_0.mp h4 (hk.mpr q.1) | exact fun q => bI_0.mp h11 (hk2.mpr q.2), rfl, rfl⟩)
  · skip
    obtain ⟨s, hs1, hs2⟩ := sp_nI (bI_n.mp h4)
    refine r_iload_n (pc := 7) B dX7_as_7 rfl ?_
    refine r_cSi1 (pc := 8) B KX7_101 (c_isKind l G _ _ _) (by decide) (Nat.le_of_ble_eq_true rfl) dX7_as_8 ?_
    refine r_if_ne (pc := 11) B 20 dX7_as_11 (by decide) (fun h11 => ?_) (fun h11 => ?_)
    · skip
      refine r_aload_n (pc := 20) B dX7_as_20 rfl ?_
      refine r_getr (pc := 21) B FX7_10 rfl rfl dX7_as_21 ?_
      refine r_getr (pc := 24) B FX7_220 rfl rfl dX7_as_24 ?_
      refine r_iload_n (pc := 27) B dX7_as_27 rfl ?_
      refine r_iald (pc := 28) B rfl (ix_eq hs2 hs1 (by decide)) dX7_as_28 ?_
      refine r_istore_3 (pc := 29) B dX7_as_29 (by decide) rfl ?_
      refine r_aload_n (pc := 30) B dX7_as_30 rfl ?_
      refine r_iload_n (pc := 31) B dX7_as_31 rfl ?_
      refine r_cVi1 (pc := 32) B KX7_111 (c_isUmbrella l G _ _) rfl rfl (by decide) (Nat.le_of_ble_eq_true rfl) dX7_as_32 ?_
      refine r_if_ne (pc := 35) B 44 dX7_as_35 (by decide) (fun h35 => ?_) (fun h35 => ?_)
      · skip
        obtain ⟨u, hu1, hu2⟩ := umb_nI hN8 hN (bI_n.mp h35)
        refine r_aload_n (pc := 44) B dX7_as_44 rfl ?_
        refine r_getr (pc := 45) B FX7_10 rfl rfl dX7_as_45 ?_
        refine r_getr (pc := 48) B FX7_114 rfl rfl dX7_as_48 ?_
        refine r_iload_n (pc := 51) B dX7_as_51 rfl ?_
        refine r_aald (pc := 52) B rfl rfl (ix_eq (N := 8) hu2 (by omega) (by decide)) (el_1 (by omega)) dX7_as_52 ?_
        refine r_geti (pc := 53) B FX7_223 (shU (U8 (by omega))) rfl dX7_as_53 ?_
        refine r_iload_n (pc := 56) B dX7_as_56 rfl ?_
        refine r_cSi2 (pc := 57) B KX7_226 (c_isUnder l G _ _ _ _ (unD _ _)) (by decide) (Nat.le_of_ble_eq_true rfl) dX7_as_57 ?_
        refine r_if_eq (pc := 60) B 67 dX7_as_60 (by decide) (fun h60 => ?_) (fun h60 => ?_)
        · skip
          refine r_aload_n (pc := 67) B dX7_as_67 rfl ?_
          refine r_iconst (pc := 68) (x := 2) B dX7_as_68 (by decide) ?_
          refine r_cVi1 (pc := 69) B KX7_64 (c_finding l G _ 2 (ix_of 2 rfl)) rfl rfl (by decide) (Nat.le_of_ble_eq_true rfl) dX7_as_69 ?_
          exact r_iret (pc := 72) B R dX7_as_72 (Or.inr ⟨s, hs1, hs2, hk2.mp (bI_n.mp h11), Or.inr ⟨u, hu1, hu2, by first | exact Or.inl ⟨(@bI_n _ (unD _ _)).mp h60, by rw [hu2], rfl⟩ | exact Or.inr ⟨(@bI_0 _ (unD _ _)).mp h60, rfl, rfl⟩⟩⟩)
        · skip
          refine r_iload_n (pc := 63) B dX7_as_63 rfl ?_
          refine r_goto (pc := 64) B 72 dX7_as_64 (by decide) ?_
          exact r_iret (pc := 72) B R dX7_as_72 (Or.inr ⟨s, hs1, hs2, hk2.mp (bI_n.mp h11), Or.inr ⟨u, hu1, hu2, by first | exact Or.inl ⟨(@bI_n _ (unD _ _)).mp h60, by rw [hu2], rfl⟩ | exact Or.inr ⟨(@bI_0 _ (unD _ _)).mp h60, rfl, rfl⟩⟩⟩)
      · skip
        refine r_aload_n (pc := 38) B dX7_as_38 rfl ?_
        refine r_iconst (pc := 39) (x := 5) B dX7_as_39 (by decide) ?_
        refine r_cVi1 (pc := 40) B KX7_64 (c_finding l G _ 5 (ix_of 5 rfl)) rfl rfl (by decide) (Nat.le_of_ble_eq_true rfl) dX7_as_40 ?_
        exact r_iret (pc := 43) B R dX7_as_43 (Or.inr ⟨s, hs1, hs2, hk2.mp (bI_n.mp h11), Or.inl ⟨fun q => bI_0.mp h35 q, rfl, rfl⟩⟩)
    · skip
      refine r_aload_n (pc := 14) B dX7_as_14 rfl ?_
      refine r_iconst (pc := 15) (x := 0) B dX7_as_15 (by decide) ?_
      refine r_cVi1 (pc := 16) B KX7_64 (c_finding l G _ 0 (ix_of 0 rfl)) rfl rfl (by decide) (Nat.le_of_ble_eq_true rfl) dX7_as_16 ?_
      exact r_iret (pc := 19) B R dX7_as_19 (Or.inl ⟨by first | exact fun q => bI_0.mp h4 (hk.mpr q.1) | exact fun q => bI_0.mp h11 (hk2.mpr q.2), rfl, rfl⟩)
set_option maxHeartbeats 4000000 in
set_option maxRecDepth 20000 in
theorem c_sheet (l : Launch) (G : GG) (σ : Sg) (x bt n : Int32) : Ct l G mX7_sheet 2 shT [.ref (ad G 0), .int x, .int bt, .int n] σ (fun r τ => (¬ (shP x ∧ (bt = 0 ∨ bt = 8 ∨ bt = 16 ∨ bt = 32)) ∧ fQ σ 0 r τ) ∨ (shP x ∧ (bt = 0 ∨ bt = 8 ∨ bt = 16 ∨ bt = 32) ∧ ((n < 0 ∧ fQ σ 6 r τ) ∨ (¬ n < 0 ∧ ¬ n ≤ 40 ∧ fQ σ 0 r τ) ∨ ∃ s m, s < 4 ∧ x = nI s ∧ m ≤ 40 ∧ n = nI m ∧ r = some (.int (if bt = 0 then 0 else n)) ∧ τ = st2 (st2 (fillS σ (58 + 2 * s) 40 0) (57 + 2 * s) 1 bt) (57 + 2 * s) 2 (if bt = 0 then 0 else n)))) := by
  refine ct_intro (by decide) (Nat.le_of_ble_eq_true rfl) (fun X B R => ?_)
  show V X G shT σ [some (.ref (ad G 0)), some (.int x), some (.int bt), some (.int n)] [] 0
  refine r_iload_n (pc := 0) B dX7_sheet_0 rfl ?_
  refine r_cSi1 (pc := 1) B KX7_229 (c_isSheet l G _ _ _) (by decide) (Nat.le_of_ble_eq_true rfl) dX7_sheet_1 ?_
  refine r_if_eq (pc := 4) B 29 dX7_sheet_4 (by decide) (fun h4 => ?_) (fun h4 => ?_)
  · skip
    refine r_aload_n (pc := 29) B dX7_sheet_29 rfl ?_
    refine r_iconst (pc := 30) (x := 0) B dX7_sheet_30 (by decide) ?_
    refine r_cVi1 (pc := 31) B KX7_64 (c_finding l G _ 0 (ix_of 0 rfl)) rfl rfl (by decide) (Nat.le_of_ble_eq_true rfl) dX7_sheet_31 ?_
    exact r_iret (pc := 34) B R dX7_sheet_34 (Or.inl ⟨by first | exact fun q => bI_0.mp h4 q.1 | exact fun q => q.2.elim h8 (fun z => z.elim h14 (fun z => z.elim h20 h26)), rfl, rfl⟩)
  · skip
    obtain ⟨s, hs1, hs2⟩ := sh_nI (bI_n.mp h4)
    refine r_iload_n (pc := 7) B dX7_sheet_7 rfl ?_
    refine r_if_eq (pc := 8) B 35 dX7_sheet_8 (by decide) (fun h8 => ?_) (fun h8 => ?_)
    · skip
      have hbt : bt = 0 ∨ bt = 8 ∨ bt = 16 ∨ bt = 32 := by first | exact Or.inl h8 | exact Or.inr (Or.inl h14) | exact Or.inr (Or.inr (Or.inl h20)) | exact Or.inr (Or.inr (Or.inr h26))
      refine r_iload_n (pc := 35) B dX7_sheet_35 rfl ?_
      refine r_if_ge (pc := 36) B 46 dX7_sheet_36 (by decide) (fun h36 => ?_) (fun h36 => ?_)
      · skip
        refine r_iload_n (pc := 46) B dX7_sheet_46 rfl ?_
        refine r_bipush (pc := 47) (x := 40) B dX7_sheet_47 (by decide) ?_
        refine r_icmp_le (pc := 49) B 58 dX7_sheet_49 (by decide) (fun h49 => ?_) (fun h49 => ?_)
        · skip
          obtain ⟨m, hm1, hm2⟩ : ∃ m, m ≤ 40 ∧ n = nI m := by
            obtain ⟨m, h9, rfl⟩ := nI_of (x := n) (Int32.not_lt.mpr h36)
            exact ⟨m, (nI_leI (b := 40) h9 (by omega)).mp h49, rfl⟩
          refine r_aload_n (pc := 58) B dX7_sheet_58 rfl ?_
          refine r_getr (pc := 59) B FX7_51 rfl rfl dX7_sheet_59 ?_
          refine r_iload_n (pc := 62) B dX7_sheet_62 rfl ?_
          refine r_aald (pc := 63) B rfl rfl (ix_eq (N := 4) hs2 hs1 (by decide)) (el_h hs1) dX7_sheet_63 ?_
          refine r_iload_n (pc := 64) B dX7_sheet_64 rfl ?_
          refine r_iload_n (pc := 65) B dX7_sheet_65 rfl ?_
          refine r_cVv2 (pc := 66) B KX7_232 (c_clear l G _ (H_s hs1) _ _) (shH (H_s hs1)) rfl (by decide) (Nat.le_of_ble_eq_true rfl) dX7_sheet_66 ?_
          refine r_aload_n (pc := 69) B dX7_sheet_69 rfl ?_
          refine r_getr (pc := 70) B FX7_51 rfl rfl dX7_sheet_70 ?_
          refine r_iload_n (pc := 73) B dX7_sheet_73 rfl ?_
          refine r_aald (pc := 74) B rfl rfl (ix_eq (N := 4) hs2 hs1 (by decide)) (el_h hs1) dX7_sheet_74 ?_
          refine r_geti (pc := 75) B FX7_235 (shH (H_s hs1)) rfl dX7_sheet_75 ?_
          exact r_iret (pc := 78) B R dX7_sheet_78 (Or.inr ⟨bI_n.mp h4, hbt, Or.inr (Or.inr ⟨s, m, hs1, hs2, hm1, hm2, by rw [st2_at], by rw [show 57 + 2 * s + 1 = 58 + 2 * s by omega]⟩)⟩)
        · skip
          refine r_aload_n (pc := 52) B dX7_sheet_52 rfl ?_
          refine r_iconst (pc := 53) (x := 0) B dX7_sheet_53 (by decide) ?_
          refine r_cVi1 (pc := 54) B KX7_64 (c_finding l G _ 0 (ix_of 0 rfl)) rfl rfl (by decide) (Nat.le_of_ble_eq_true rfl) dX7_sheet_54 ?_
          exact r_iret (pc := 57) B R dX7_sheet_57 (Or.inr ⟨bI_n.mp h4, hbt, Or.inr (Or.inl ⟨Int32.not_lt.mpr h36, h49, rfl, rfl⟩)⟩)
      · skip
        refine r_aload_n (pc := 39) B dX7_sheet_39 rfl ?_
        refine r_bipush (pc := 40) (x := 6) B dX7_sheet_40 (by decide) ?_
        refine r_cVi1 (pc := 42) B KX7_64 (c_finding l G _ 6 (ix_of 6 rfl)) rfl rfl (by decide) (Nat.le_of_ble_eq_true rfl) dX7_sheet_42 ?_
        exact r_iret (pc := 45) B R dX7_sheet_45 (Or.inr ⟨bI_n.mp h4, hbt, Or.inl ⟨Int32.not_le.mp h36, rfl, rfl⟩⟩)
    · skip
      refine r_iload_n (pc := 11) B dX7_sheet_11 rfl ?_
      refine r_bipush (pc := 12) (x := 8) B dX7_sheet_12 (by decide) ?_
      refine r_icmp_eq (pc := 14) B 35 dX7_sheet_14 (by decide) (fun h14 => ?_) (fun h14 => ?_)
      · skip
        have hbt : bt = 0 ∨ bt = 8 ∨ bt = 16 ∨ bt = 32 := by first | exact Or.inl h8 | exact Or.inr (Or.inl h14) | exact Or.inr (Or.inr (Or.inl h20)) | exact Or.inr (Or.inr (Or.inr h26))
        refine r_iload_n (pc := 35) B dX7_sheet_35 rfl ?_
        refine r_if_ge (pc := 36) B 46 dX7_sheet_36 (by decide) (fun h36 => ?_) (fun h36 => ?_)
        · skip
          refine r_iload_n (pc := 46) B dX7_sheet_46 rfl ?_
          refine r_bipush (pc := 47) (x := 40) B dX7_sheet_47 (by decide) ?_
          refine r_icmp_le (pc := 49) B 58 dX7_sheet_49 (by decide) (fun h49 => ?_) (fun h49 => ?_)
          · skip
            obtain ⟨m, hm1, hm2⟩ : ∃ m, m ≤ 40 ∧ n = nI m := by
              obtain ⟨m, h9, rfl⟩ := nI_of (x := n) (Int32.not_lt.mpr h36)
              exact ⟨m, (nI_leI (b := 40) h9 (by omega)).mp h49, rfl⟩
            refine r_aload_n (pc := 58) B dX7_sheet_58 rfl ?_
            refine r_getr (pc := 59) B FX7_51 rfl rfl dX7_sheet_59 ?_
            refine r_iload_n (pc := 62) B dX7_sheet_62 rfl ?_
            refine r_aald (pc := 63) B rfl rfl (ix_eq (N := 4) hs2 hs1 (by decide)) (el_h hs1) dX7_sheet_63 ?_
            refine r_iload_n (pc := 64) B dX7_sheet_64 rfl ?_
            refine r_iload_n (pc := 65) B dX7_sheet_65 rfl ?_
            refine r_cVv2 (pc := 66) B KX7_232 (c_clear l G _ (H_s hs1) _ _) (shH (H_s hs1)) rfl (by decide) (Nat.le_of_ble_eq_true rfl) dX7_sheet_66 ?_
            refine r_aload_n (pc := 69) B dX7_sheet_69 rfl ?_
            refine r_getr (pc := 70) B FX7_51 rfl rfl dX7_sheet_70 ?_
            refine r_iload_n (pc := 73) B dX7_sheet_73 rfl ?_
            refine r_aald (pc := 74) B rfl rfl (ix_eq (N := 4) hs2 hs1 (by decide)) (el_h hs1) dX7_sheet_74 ?_
            refine r_geti (pc := 75) B FX7_235 (shH (H_s hs1)) rfl dX7_sheet_75 ?_
            exact r_iret (pc := 78) B R dX7_sheet_78 (Or.inr ⟨bI_n.mp h4, hbt, Or.inr (Or.inr ⟨s, m, hs1, hs2, hm1, hm2, by rw [st2_at], by rw [show 57 + 2 * s + 1 = 58 + 2 * s by omega]⟩)⟩)
          · skip
            refine r_aload_n (pc := 52) B dX7_sheet_52 rfl ?_
            refine r_iconst (pc := 53) (x := 0) B dX7_sheet_53 (by decide) ?_
            refine r_cVi1 (pc := 54) B KX7_64 (c_finding l G _ 0 (ix_of 0 rfl)) rfl rfl (by decide) (Nat.le_of_ble_eq_true rfl) dX7_sheet_54 ?_
            exact r_iret (pc := 57) B R dX7_sheet_57 (Or.inr ⟨bI_n.mp h4, hbt, Or.inr (Or.inl ⟨Int32.not_lt.mpr h36, h49, rfl, rfl⟩)⟩)
        · skip
          refine r_aload_n (pc := 39) B dX7_sheet_39 rfl ?_
          refine r_bipush (pc := 40) (x := 6) B dX7_sheet_40 (by decide) ?_
          refine r_cVi1 (pc := 42) B KX7_64 (c_finding l G _ 6 (ix_of 6 rfl)) rfl rfl (by decide) (Nat.le_of_ble_eq_true rfl) dX7_sheet_42 ?_
          exact r_iret (pc := 45) B R dX7_sheet_45 (Or.inr ⟨bI_n.mp h4, hbt, Or.inl ⟨Int32.not_le.mp h36, rfl, rfl⟩⟩)
      · skip
        refine r_iload_n (pc := 17) B dX7_sheet_17 rfl ?_
        refine r_bipush (pc := 18) (x := 16) B dX7_sheet_18 (by decide) ?_
        refine r_icmp_eq (pc := 20) B 35 dX7_sheet_20 (by decide) (fun h20 => ?_) (fun h20 => ?_)
        · skip
          have hbt : bt = 0 ∨ bt = 8 ∨ bt = 16 ∨ bt = 32 := by first | exact Or.inl h8 | exact Or.inr (Or.inl h14) | exact Or.inr (Or.inr (Or.inl h20)) | exact Or.inr (Or.inr (Or.inr h26))
          refine r_iload_n (pc := 35) B dX7_sheet_35 rfl ?_
          refine r_if_ge (pc := 36) B 46 dX7_sheet_36 (by decide) (fun h36 => ?_) (fun h36 => ?_)
          · skip
            refine r_iload_n (pc := 46) B dX7_sheet_46 rfl ?_
            refine r_bipush (pc := 47) (x := 40) B dX7_sheet_47 (by decide) ?_
            refine r_icmp_le (pc := 49) B 58 dX7_sheet_49 (by decide) (fun h49 => ?_) (fun h49 => ?_)
            · skip
              obtain ⟨m, hm1, hm2⟩ : ∃ m, m ≤ 40 ∧ n = nI m := by
                obtain ⟨m, h9, rfl⟩ := nI_of (x := n) (Int32.not_lt.mpr h36)
                exact ⟨m, (nI_leI (b := 40) h9 (by omega)).mp h49, rfl⟩
              refine r_aload_n (pc := 58) B dX7_sheet_58 rfl ?_
              refine r_getr (pc := 59) B FX7_51 rfl rfl dX7_sheet_59 ?_
              refine r_iload_n (pc := 62) B dX7_sheet_62 rfl ?_
              refine r_aald (pc := 63) B rfl rfl (ix_eq (N := 4) hs2 hs1 (by decide)) (el_h hs1) dX7_sheet_63 ?_
              refine r_iload_n (pc := 64) B dX7_sheet_64 rfl ?_
              refine r_iload_n (pc := 65) B dX7_sheet_65 rfl ?_
              refine r_cVv2 (pc := 66) B KX7_232 (c_clear l G _ (H_s hs1) _ _) (shH (H_s hs1)) rfl (by decide) (Nat.le_of_ble_eq_true rfl) dX7_sheet_66 ?_
              refine r_aload_n (pc := 69) B dX7_sheet_69 rfl ?_
              refine r_getr (pc := 70) B FX7_51 rfl rfl dX7_sheet_70 ?_
              refine r_iload_n (pc := 73) B dX7_sheet_73 rfl ?_
              refine r_aald (pc := 74) B rfl rfl (ix_eq (N := 4) hs2 hs1 (by decide)) (el_h hs1) dX7_sheet_74 ?_
              refine r_geti (pc := 75) B FX7_235 (shH (H_s hs1)) rfl dX7_sheet_75 ?_
              exact r_iret (pc := 78) B R dX7_sheet_78 (Or.inr ⟨bI_n.mp h4, hbt, Or.inr (Or.inr ⟨s, m, hs1, hs2, hm1, hm2, by rw [st2_at], by rw [show 57 + 2 * s + 1 = 58 + 2 * s by omega]⟩)⟩)
            · skip
              refine r_aload_n (pc := 52) B dX7_sheet_52 rfl ?_
              refine r_iconst (pc := 53) (x := 0) B dX7_sheet_53 (by decide) ?_
              refine r_cVi1 (pc := 54) B KX7_64 (c_finding l G _ 0 (ix_of 0 rfl)) rfl rfl (by decide) (Nat.le_of_ble_eq_true rfl) dX7_sheet_54 ?_
              exact r_iret (pc := 57) B R dX7_sheet_57 (Or.inr ⟨bI_n.mp h4, hbt, Or.inr (Or.inl ⟨Int32.not_lt.mpr h36, h49, rfl, rfl⟩)⟩)
          · skip
            refine r_aload_n (pc := 39) B dX7_sheet_39 rfl ?_
            refine r_bipush (pc := 40) (x := 6) B dX7_sheet_40 (by decide) ?_
            refine r_cVi1 (pc := 42) B KX7_64 (c_finding l G _ 6 (ix_of 6 rfl)) rfl rfl (by decide) (Nat.le_of_ble_eq_true rfl) dX7_sheet_42 ?_
            exact r_iret (pc := 45) B R dX7_sheet_45 (Or.inr ⟨bI_n.mp h4, hbt, Or.inl ⟨Int32.not_le.mp h36, rfl, rfl⟩⟩)
        · skip
          refine r_iload_n (pc := 23) B dX7_sheet_23 rfl ?_
          refine r_bipush (pc := 24) (x := 32) B dX7_sheet_24 (by decide) ?_
          refine r_icmp_eq (pc := 26) B 35 dX7_sheet_26 (by decide) (fun h26 => ?_) (fun h26 => ?_)
          · skip
            have hbt : bt = 0 ∨ bt = 8 ∨ bt = 16 ∨ bt = 32 := by first | exact Or.inl h8 | exact Or.inr (Or.inl h14) | exact Or.inr (Or.inr (Or.inl h20)) | exact Or.inr (Or.inr (Or.inr h26))
            refine r_iload_n (pc := 35) B dX7_sheet_35 rfl ?_
            refine r_if_ge (pc := 36) B 46 dX7_sheet_36 (by decide) (fun h36 => ?_) (fun h36 => ?_)
            · skip
              refine r_iload_n (pc := 46) B dX7_sheet_46 rfl ?_
              refine r_bipush (pc := 47) (x := 40) B dX7_sheet_47 (by decide) ?_
              refine r_icmp_le (pc := 49) B 58 dX7_sheet_49 (by decide) (fun h49 => ?_) (fun h49 => ?_)
              · skip
                obtain ⟨m, hm1, hm2⟩ : ∃ m, m ≤ 40 ∧ n = nI m := by
                  obtain ⟨m, h9, rfl⟩ := nI_of (x := n) (Int32.not_lt.mpr h36)
                  exact ⟨m, (nI_leI (b := 40) h9 (by omega)).mp h49, rfl⟩
                refine r_aload_n (pc := 58) B dX7_sheet_58 rfl ?_
                refine r_getr (pc := 59) B FX7_51 rfl rfl dX7_sheet_59 ?_
                refine r_iload_n (pc := 62) B dX7_sheet_62 rfl ?_
                refine r_aald (pc := 63) B rfl rfl (ix_eq (N := 4) hs2 hs1 (by decide)) (el_h hs1) dX7_sheet_63 ?_
                refine r_iload_n (pc := 64) B dX7_sheet_64 rfl ?_
                refine r_iload_n (pc := 65) B dX7_sheet_65 rfl ?_
                refine r_cVv2 (pc := 66) B KX7_232 (c_clear l G _ (H_s hs1) _ _) (shH (H_s hs1)) rfl (by decide) (Nat.le_of_ble_eq_true rfl) dX7_sheet_66 ?_
                refine r_aload_n (pc := 69) B dX7_sheet_69 rfl ?_
                refine r_getr (pc := 70) B FX7_51 rfl rfl dX7_sheet_70 ?_
                refine r_iload_n (pc := 73) B dX7_sheet_73 rfl ?_
                refine r_aald (pc := 74) B rfl rfl (ix_eq (N := 4) hs2 hs1 (by decide)) (el_h hs1) dX7_sheet_74 ?_
                refine r_geti (pc := 75) B FX7_235 (shH (H_s hs1)) rfl dX7_sheet_75 ?_
                exact r_iret (pc := 78) B R dX7_sheet_78 (Or.inr ⟨bI_n.mp h4, hbt, Or.inr (Or.inr ⟨s, m, hs1, hs2, hm1, hm2, by rw [st2_at], by rw [show 57 + 2 * s + 1 = 58 + 2 * s by omega]⟩)⟩)
              · skip
                refine r_aload_n (pc := 52) B dX7_sheet_52 rfl ?_
                refine r_iconst (pc := 53) (x := 0) B dX7_sheet_53 (by decide) ?_
                refine r_cVi1 (pc := 54) B KX7_64 (c_finding l G _ 0 (ix_of 0 rfl)) rfl rfl (by decide) (Nat.le_of_ble_eq_true rfl) dX7_sheet_54 ?_
                exact r_iret (pc := 57) B R dX7_sheet_57 (Or.inr ⟨bI_n.mp h4, hbt, Or.inr (Or.inl ⟨Int32.not_lt.mpr h36, h49, rfl, rfl⟩)⟩)
            · skip
              refine r_aload_n (pc := 39) B dX7_sheet_39 rfl ?_
              refine r_bipush (pc := 40) (x := 6) B dX7_sheet_40 (by decide) ?_
              refine r_cVi1 (pc := 42) B KX7_64 (c_finding l G _ 6 (ix_of 6 rfl)) rfl rfl (by decide) (Nat.le_of_ble_eq_true rfl) dX7_sheet_42 ?_
              exact r_iret (pc := 45) B R dX7_sheet_45 (Or.inr ⟨bI_n.mp h4, hbt, Or.inl ⟨Int32.not_le.mp h36, rfl, rfl⟩⟩)
          · skip
            refine r_aload_n (pc := 29) B dX7_sheet_29 rfl ?_
            refine r_iconst (pc := 30) (x := 0) B dX7_sheet_30 (by decide) ?_
            refine r_cVi1 (pc := 31) B KX7_64 (c_finding l G _ 0 (ix_of 0 rfl)) rfl rfl (by decide) (Nat.le_of_ble_eq_true rfl) dX7_sheet_31 ?_
            exact r_iret (pc := 34) B R dX7_sheet_34 (Or.inl ⟨by first | exact fun q => bI_0.mp h4 q.1 | exact fun q => q.2.elim h8 (fun z => z.elim h14 (fun z => z.elim h20 h26)), rfl, rfl⟩)
set_option maxHeartbeats 4000000 in
set_option maxRecDepth 20000 in
theorem c_write (l : Launch) (G : GG) (σ : Sg) (hz : szP σ) (x i v : Int32) : Ct l G mX7_write 1 shT [.ref (ad G 0), .int x, .int i, .int v] σ (fun r τ => (¬ shP x ∧ fQ σ 0 r τ) ∨ ∃ s m, s < 4 ∧ x = nI s ∧ σ (57 + 2 * s) 2 = nI m ∧ m ≤ 40 ∧ ((σ (57 + 2 * s) 1 = 0 ∧ fQ σ 5 r τ) ∨ (¬ σ (57 + 2 * s) 1 = 0 ∧ ¬ (¬ i < 0 ∧ i < nI m) ∧ fQ σ 0 r τ) ∨ (¬ σ (57 + 2 * s) 1 = 0 ∧ ∃ k, k < m ∧ i = nI k ∧ r = some (.int 1) ∧ τ = st2 σ (58 + 2 * s) k (putF (σ (57 + 2 * s) 1) v)))) := by
  refine ct_intro (by decide) (Nat.le_of_ble_eq_true rfl) (fun X B R => ?_)
  show V X G shT σ [some (.ref (ad G 0)), some (.int x), some (.int i), some (.int v), none] [] 0
  refine r_iload_n (pc := 0) B dX7_write_0 rfl ?_
  refine r_cSi1 (pc := 1) B KX7_229 (c_isSheet l G _ _ _) (by decide) (Nat.le_of_ble_eq_true rfl) dX7_write_1 ?_
  refine r_if_ne (pc := 4) B 13 dX7_write_4 (by decide) (fun h4 => ?_) (fun h4 => ?_)
  · skip
    obtain ⟨s, hs1, hs2⟩ := sh_nI (bI_n.mp h4)
    obtain ⟨m, hm1, hm2⟩ := hz s hs1
    refine r_aload_n (pc := 13) B dX7_write_13 rfl ?_
    refine r_getr (pc := 14) B FX7_51 rfl rfl dX7_write_14 ?_
    refine r_iload_n (pc := 17) B dX7_write_17 rfl ?_
    refine r_aald (pc := 18) B rfl rfl (ix_eq (N := 4) hs2 hs1 (by decide)) (el_h hs1) dX7_write_18 ?_
    refine r_astore_4 (pc := 19) B dX7_write_19 (by decide) rfl ?_
    refine r_aload (pc := 21) B dX7_write_21 rfl ?_
    refine r_cVi0 (pc := 23) B KX7_236 (c_isMissing l G _ (H_s hs1)) (shH (H_s hs1)) rfl (by decide) (Nat.le_of_ble_eq_true rfl) dX7_write_23 ?_
    refine r_if_eq (pc := 26) B 35 dX7_write_26 (by decide) (fun h26 => ?_) (fun h26 => ?_)
    · skip
      refine r_iload_n (pc := 35) B dX7_write_35 rfl ?_
      refine r_if_lt (pc := 36) B 48 dX7_write_36 (by decide) (fun h36 => ?_) (fun h36 => ?_)
      · skip
        refine r_aload_n (pc := 48) B dX7_write_48 rfl ?_
        refine r_iconst (pc := 49) (x := 0) B dX7_write_49 (by decide) ?_
        refine r_cVi1 (pc := 50) B KX7_64 (c_finding l G _ 0 (ix_of 0 rfl)) rfl rfl (by decide) (Nat.le_of_ble_eq_true rfl) dX7_write_50 ?_
        exact r_iret (pc := 53) B R dX7_write_53 (Or.inr ⟨s, m, hs1, hs2, hm2, hm1, Or.inr (Or.inl ⟨bI_0.mp h26, by first | exact fun q => q.1 h36 | exact fun q => h45 q.2, rfl, rfl⟩)⟩)
      · skip
        refine r_iload_n (pc := 39) B dX7_write_39 rfl ?_
        refine r_aload (pc := 40) B dX7_write_40 rfl ?_
        refine r_geti (pc := 42) B FX7_235 (shH (H_s hs1)) rfl dX7_write_42 ?_
        rw [hm2]
        refine r_icmp_lt (pc := 45) B 54 dX7_write_45 (by decide) (fun h45 => ?_) (fun h45 => ?_)
        · skip
          obtain ⟨k, hk1, hk2⟩ := ix_lt h36 h45 (by omega)
          refine r_aload (pc := 54) B dX7_write_54 rfl ?_
          refine r_iload_n (pc := 56) B dX7_write_56 rfl ?_
          refine r_iload_n (pc := 57) B dX7_write_57 rfl ?_
          rw [hk2]
          refine r_cVv2 (pc := 58) B KX7_239 (c_put l G _ (H_s hs1) hk1 hm1 hm2 _) (shH (H_s hs1)) rfl (by decide) (Nat.le_of_ble_eq_true rfl) dX7_write_58 ?_
          refine r_iconst (pc := 61) (x := 1) B dX7_write_61 (by decide) ?_
          exact r_iret (pc := 62) B R dX7_write_62 (Or.inr ⟨s, m, hs1, hs2, hm2, hm1, Or.inr (Or.inr ⟨bI_0.mp h26, k, hk1, hk2, rfl, by rw [show 57 + 2 * s + 1 = 58 + 2 * s by omega]⟩)⟩)
        · skip
          refine r_aload_n (pc := 48) B dX7_write_48 rfl ?_
          refine r_iconst (pc := 49) (x := 0) B dX7_write_49 (by decide) ?_
          refine r_cVi1 (pc := 50) B KX7_64 (c_finding l G _ 0 (ix_of 0 rfl)) rfl rfl (by decide) (Nat.le_of_ble_eq_true rfl) dX7_write_50 ?_
          exact r_iret (pc := 53) B R dX7_write_53 (Or.inr ⟨s, m, hs1, hs2, hm2, hm1, Or.inr (Or.inl ⟨bI_0.mp h26, by first | exact fun q => q.1 h36 | exact fun q => h45 q.2, rfl, rfl⟩)⟩)
    · skip
      refine r_aload_n (pc := 29) B dX7_write_29 rfl ?_
      refine r_iconst (pc := 30) (x := 5) B dX7_write_30 (by decide) ?_
      refine r_cVi1 (pc := 31) B KX7_64 (c_finding l G _ 5 (ix_of 5 rfl)) rfl rfl (by decide) (Nat.le_of_ble_eq_true rfl) dX7_write_31 ?_
      exact r_iret (pc := 34) B R dX7_write_34 (Or.inr ⟨s, m, hs1, hs2, hm2, hm1, Or.inl ⟨bI_n.mp h26, rfl, rfl⟩⟩)
  · skip
    refine r_aload_n (pc := 7) B dX7_write_7 rfl ?_
    refine r_iconst (pc := 8) (x := 0) B dX7_write_8 (by decide) ?_
    refine r_cVi1 (pc := 9) B KX7_64 (c_finding l G _ 0 (ix_of 0 rfl)) rfl rfl (by decide) (Nat.le_of_ble_eq_true rfl) dX7_write_9 ?_
    exact r_iret (pc := 12) B R dX7_write_12 (Or.inl ⟨fun q => bI_0.mp h4 q, rfl, rfl⟩)
theorem has_nI {m : Nat} {f n : Int32} (hm : m ≤ 40) (h : hasP (nI m) f n) : ∃ a b, f = nI a ∧ n = nI b ∧ a + b ≤ m := by
  obtain ⟨h1, h2, h3, h4⟩ := h
  obtain ⟨a, ha, rfl⟩ := nI_of h1
  obtain ⟨b, hb, rfl⟩ := nI_of h2
  have e : b ≤ m := by
    rcases Nat.lt_or_ge m b with q | q
    · exact absurd ((nI_ltI (by omega) hb).mpr q) h3
    · exact q
  rw [pk_sub e] at h4
  refine ⟨a, b, rfl, rfl, ?_⟩
  rcases Nat.lt_or_ge (m - b) a with q | q
  · exact absurd ((nI_ltI (by omega) ha).mpr q) h4
  · omega

set_option maxHeartbeats 4000000 in
set_option maxRecDepth 20000 in
theorem c_copy (l : Launch) (G : GG) (σ : Sg) (hz : szP σ) (x f y t0 n : Int32) : Ct l G mX7_copy 1 shT [.ref (ad G 0), .int x, .int f, .int y, .int t0, .int n] σ (fun r τ => (¬ (shP x ∧ shP y) ∧ fQ σ 0 r τ) ∨ ∃ s t, s < 4 ∧ t < 4 ∧ x = nI s ∧ y = nI t ∧ (((σ (57 + 2 * s) 1 = 0 ∨ σ (57 + 2 * t) 1 = 0) ∧ fQ σ 5 r τ) ∨ (¬ σ (57 + 2 * s) 1 = 0 ∧ ¬ σ (57 + 2 * t) 1 = 0 ∧ ¬ σ (57 + 2 * s) 1 = σ (57 + 2 * t) 1 ∧ fQ σ 2 r τ) ∨ (¬ σ (57 + 2 * s) 1 = 0 ∧ ¬ σ (57 + 2 * t) 1 = 0 ∧ σ (57 + 2 * s) 1 = σ (57 + 2 * t) 1 ∧ ((¬ (hasP (σ (57 + 2 * s) 2) f n ∧ hasP (σ (57 + 2 * t) 2) t0 n) ∧ fQ σ 0 r τ) ∨ (hasP (σ (57 + 2 * s) 2) f n ∧ hasP (σ (57 + 2 * t) 2) t0 n ∧ r = some (.int n) ∧ τ = cp2 σ (58 + 2 * s) f.toNatClampNeg (58 + 2 * t) t0.toNatClampNeg n.toNatClampNeg))))) := by
  refine ct_intro (by decide) (Nat.le_of_ble_eq_true rfl) (fun X B R => ?_)
  show V X G shT σ [some (.ref (ad G 0)), some (.int x), some (.int f), some (.int y), some (.int t0), some (.int n), none, none] [] 0
  refine r_iload_n (pc := 0) B dX7_copy_0 rfl ?_
  refine r_cSi1 (pc := 1) B KX7_229 (c_isSheet l G _ _ _) (by decide) (Nat.le_of_ble_eq_true rfl) dX7_copy_1 ?_
  refine r_if_eq (pc := 4) B 14 dX7_copy_4 (by decide) (fun h4 => ?_) (fun h4 => ?_)
  · skip
    refine r_aload_n (pc := 14) B dX7_copy_14 rfl ?_
    refine r_iconst (pc := 15) (x := 0) B dX7_copy_15 (by decide) ?_
    refine r_cVi1 (pc := 16) B KX7_64 (c_finding l G _ 0 (ix_of 0 rfl)) rfl rfl (by decide) (Nat.le_of_ble_eq_true rfl) dX7_copy_16 ?_
    exact r_iret (pc := 19) B R dX7_copy_19 (Or.inl ⟨by first | exact fun q => bI_0.mp h4 q.1 | exact fun q => bI_0.mp h11 q.2, rfl, rfl⟩)
  · skip
    obtain ⟨s, hs1, hs2⟩ := sh_nI (bI_n.mp h4)
    refine r_iload_n (pc := 7) B dX7_copy_7 rfl ?_
    refine r_cSi1 (pc := 8) B KX7_229 (c_isSheet l G _ _ _) (by decide) (Nat.le_of_ble_eq_true rfl) dX7_copy_8 ?_
    refine r_if_ne (pc := 11) B 20 dX7_copy_11 (by decide) (fun h11 => ?_) (fun h11 => ?_)
    · skip
      obtain ⟨t, ht1, ht2⟩ := sh_nI (bI_n.mp h11)
      obtain ⟨m, hm1, hm2⟩ := hz s hs1
      obtain ⟨m2, hm3, hm4⟩ := hz t ht1
      refine r_aload_n (pc := 20) B dX7_copy_20 rfl ?_
      refine r_getr (pc := 21) B FX7_51 rfl rfl dX7_copy_21 ?_
      refine r_iload_n (pc := 24) B dX7_copy_24 rfl ?_
      refine r_aald (pc := 25) B rfl rfl (ix_eq (N := 4) hs2 hs1 (by decide)) (el_h hs1) dX7_copy_25 ?_
      refine r_astore_6 (pc := 26) B dX7_copy_26 (by decide) rfl ?_
      refine r_aload_n (pc := 28) B dX7_copy_28 rfl ?_
      refine r_getr (pc := 29) B FX7_51 rfl rfl dX7_copy_29 ?_
      refine r_iload_n (pc := 32) B dX7_copy_32 rfl ?_
      refine r_aald (pc := 33) B rfl rfl (ix_eq (N := 4) ht2 ht1 (by decide)) (el_h ht1) dX7_copy_33 ?_
      refine r_astore_7 (pc := 34) B dX7_copy_34 (by decide) rfl ?_
      refine r_aload (pc := 36) B dX7_copy_36 rfl ?_
      refine r_cVi0 (pc := 38) B KX7_236 (c_isMissing l G _ (H_s hs1)) (shH (H_s hs1)) rfl (by decide) (Nat.le_of_ble_eq_true rfl) dX7_copy_38 ?_
      refine r_if_ne (pc := 41) B 52 dX7_copy_41 (by decide) (fun h41 => ?_) (fun h41 => ?_)
      · skip
        refine r_aload_n (pc := 52) B dX7_copy_52 rfl ?_
        refine r_iconst (pc := 53) (x := 5) B dX7_copy_53 (by decide) ?_
        refine r_cVi1 (pc := 54) B KX7_64 (c_finding l G _ 5 (ix_of 5 rfl)) rfl rfl (by decide) (Nat.le_of_ble_eq_true rfl) dX7_copy_54 ?_
        exact r_iret (pc := 57) B R dX7_copy_57 (Or.inr ⟨s, t, hs1, ht1, hs2, ht2, Or.inl ⟨by first | exact Or.inl (bI_n.mp h41) | exact Or.inr (bI_n.mp h49), rfl, rfl⟩⟩)
      · skip
        refine r_aload (pc := 44) B dX7_copy_44 rfl ?_
        refine r_cVi0 (pc := 46) B KX7_236 (c_isMissing l G _ (H_s ht1)) (shH (H_s ht1)) rfl (by decide) (Nat.le_of_ble_eq_true rfl) dX7_copy_46 ?_
        refine r_if_eq (pc := 49) B 58 dX7_copy_49 (by decide) (fun h49 => ?_) (fun h49 => ?_)
        · skip
          refine r_aload (pc := 58) B dX7_copy_58 rfl ?_
          refine r_geti (pc := 60) B FX7_242 (shH (H_s hs1)) rfl dX7_copy_60 ?_
          refine r_aload (pc := 63) B dX7_copy_63 rfl ?_
          refine r_geti (pc := 65) B FX7_242 (shH (H_s ht1)) rfl dX7_copy_65 ?_
          refine r_icmp_eq (pc := 68) B 77 dX7_copy_68 (by decide) (fun h68 => ?_) (fun h68 => ?_)
          · skip
            refine r_aload (pc := 77) B dX7_copy_77 rfl ?_
            refine r_iload_n (pc := 79) B dX7_copy_79 rfl ?_
            refine r_iload (pc := 80) B dX7_copy_80 rfl ?_
            refine r_cVi2 (pc := 82) B KX7_245 (c_has l G _ (H_s hs1) _ _) (shH (H_s hs1)) rfl (by decide) (Nat.le_of_ble_eq_true rfl) dX7_copy_82 ?_
            refine r_if_eq (pc := 85) B 100 dX7_copy_85 (by decide) (fun h85 => ?_) (fun h85 => ?_)
            · skip
              refine r_aload_n (pc := 100) B dX7_copy_100 rfl ?_
              refine r_iconst (pc := 101) (x := 0) B dX7_copy_101 (by decide) ?_
              refine r_cVi1 (pc := 102) B KX7_64 (c_finding l G _ 0 (ix_of 0 rfl)) rfl rfl (by decide) (Nat.le_of_ble_eq_true rfl) dX7_copy_102 ?_
              exact r_iret (pc := 105) B R dX7_copy_105 (Or.inr ⟨s, t, hs1, ht1, hs2, ht2, Or.inr (Or.inr ⟨bI_0.mp h41, bI_0.mp h49, h68, Or.inl ⟨by first | exact fun q => bI_0.mp h85 q.1 | exact fun q => bI_0.mp h97 q.2, rfl, rfl⟩⟩)⟩)
            · skip
              refine r_aload (pc := 88) B dX7_copy_88 rfl ?_
              refine r_iload (pc := 90) B dX7_copy_90 rfl ?_
              refine r_iload (pc := 92) B dX7_copy_92 rfl ?_
              refine r_cVi2 (pc := 94) B KX7_245 (c_has l G _ (H_s ht1) _ _) (shH (H_s ht1)) rfl (by decide) (Nat.le_of_ble_eq_true rfl) dX7_copy_94 ?_
              refine r_if_ne (pc := 97) B 106 dX7_copy_97 (by decide) (fun h97 => ?_) (fun h97 => ?_)
              · skip
                have q1 := bI_n.mp h85
                have q2 := bI_n.mp h97
                obtain ⟨a, b, ea, eb, hab⟩ := has_nI hm1 (by rw [← hm2]; exact q1)
                obtain ⟨a2, b2, ea2, eb2, hab2⟩ := has_nI hm3 (by rw [← hm4]; exact q2)
                have hb3 : b2 < 2 ^ 31 := by omega
                have hbb : b2 = b := (nI_eq (by omega) (by omega)).mp (eb2.symm.trans eb)
                subst hbb
                have k1 : f.toNatClampNeg = a := by rw [ea]; exact nI_clamp (by omega)
                have k2 : t0.toNatClampNeg = a2 := by rw [ea2]; exact nI_clamp (by omega)
                have k3 : n.toNatClampNeg = b2 := by rw [eb]; exact nI_clamp (by omega)
                refine r_aload (pc := 106) B dX7_copy_106 rfl ?_
                refine r_getr (pc := 108) B FX7_248 (shH (H_s hs1)) rfl dX7_copy_108 ?_
                refine r_iload_n (pc := 111) B dX7_copy_111 rfl ?_
                refine r_aload (pc := 112) B dX7_copy_112 rfl ?_
                refine r_getr (pc := 114) B FX7_248 (shH (H_s ht1)) rfl dX7_copy_114 ?_
                refine r_iload (pc := 117) B dX7_copy_117 rfl ?_
                refine r_iload (pc := 119) B dX7_copy_119 rfl ?_
                refine r_copy (pc := 121) B q721 ⟨q407, q406, q12⟩ (by decide) (Nat.le_of_ble_eq_true rfl) (shH1 (H_s hs1)) (shH1 (H_s ht1)) ⟨q1.1, k1⟩ ⟨q2.1, k2⟩ ⟨q1.2.1, k3⟩ (by omega) (by omega) dX7_copy_121 ?_
                refine r_iload (pc := 124) B dX7_copy_124 rfl ?_
                exact r_iret (pc := 126) B R dX7_copy_126 (Or.inr ⟨s, t, hs1, ht1, hs2, ht2, Or.inr (Or.inr ⟨bI_0.mp h41, bI_0.mp h49, h68, Or.inr ⟨q1, q2, rfl, by rw [k1, k2, k3, show 57 + 2 * s + 1 = 58 + 2 * s by omega, show 57 + 2 * t + 1 = 58 + 2 * t by omega]⟩⟩)⟩)
              · skip
                refine r_aload_n (pc := 100) B dX7_copy_100 rfl ?_
                refine r_iconst (pc := 101) (x := 0) B dX7_copy_101 (by decide) ?_
                refine r_cVi1 (pc := 102) B KX7_64 (c_finding l G _ 0 (ix_of 0 rfl)) rfl rfl (by decide) (Nat.le_of_ble_eq_true rfl) dX7_copy_102 ?_
                exact r_iret (pc := 105) B R dX7_copy_105 (Or.inr ⟨s, t, hs1, ht1, hs2, ht2, Or.inr (Or.inr ⟨bI_0.mp h41, bI_0.mp h49, h68, Or.inl ⟨by first | exact fun q => bI_0.mp h85 q.1 | exact fun q => bI_0.mp h97 q.2, rfl, rfl⟩⟩)⟩)
          · skip
            refine r_aload_n (pc := 71) B dX7_copy_71 rfl ?_
            refine r_iconst (pc := 72) (x := 2) B dX7_copy_72 (by decide) ?_
            refine r_cVi1 (pc := 73) B KX7_64 (c_finding l G _ 2 (ix_of 2 rfl)) rfl rfl (by decide) (Nat.le_of_ble_eq_true rfl) dX7_copy_73 ?_
            exact r_iret (pc := 76) B R dX7_copy_76 (Or.inr ⟨s, t, hs1, ht1, hs2, ht2, Or.inr (Or.inl ⟨bI_0.mp h41, bI_0.mp h49, h68, rfl, rfl⟩)⟩)
        · skip
          refine r_aload_n (pc := 52) B dX7_copy_52 rfl ?_
          refine r_iconst (pc := 53) (x := 5) B dX7_copy_53 (by decide) ?_
          refine r_cVi1 (pc := 54) B KX7_64 (c_finding l G _ 5 (ix_of 5 rfl)) rfl rfl (by decide) (Nat.le_of_ble_eq_true rfl) dX7_copy_54 ?_
          exact r_iret (pc := 57) B R dX7_copy_57 (Or.inr ⟨s, t, hs1, ht1, hs2, ht2, Or.inl ⟨by first | exact Or.inl (bI_n.mp h41) | exact Or.inr (bI_n.mp h49), rfl, rfl⟩⟩)
    · skip
      refine r_aload_n (pc := 14) B dX7_copy_14 rfl ?_
      refine r_iconst (pc := 15) (x := 0) B dX7_copy_15 (by decide) ?_
      refine r_cVi1 (pc := 16) B KX7_64 (c_finding l G _ 0 (ix_of 0 rfl)) rfl rfl (by decide) (Nat.le_of_ble_eq_true rfl) dX7_copy_16 ?_
      exact r_iret (pc := 19) B R dX7_copy_19 (Or.inl ⟨by first | exact fun q => bI_0.mp h4 q.1 | exact fun q => bI_0.mp h11 q.2, rfl, rfl⟩)
/-- how many come: from k on, at most n -/
def ldN (f : Nat → Int32) (m : Nat) : Nat → Nat → Nat
  | 0, k => k
  | n + 1, k => if k < m ∧ k < 16 ∧ withinP (f k) 99 then ldN f m n (k + 1) else k
def ldV (w f : Nat → Int32) (k : Nat) : Nat → Int32 := fun j => if 21 ≤ j ∧ j < 21 + k then f (j - 21) else w j
theorem wr_load {σ ρ : Sg} {f : Nat → Int32} {k : Nat} (h : isWr 1 σ ρ (ldV (vw 1 σ) f k)) (hk : k < 16) : isWr 1 σ (st2 ρ 4 k (f k)) (ldV (vw 1 σ) f (k + 1)) := by
  have := wr_st2 (W := 1) (m := 21 + k) (c := 3) (i := k) (f k) h (by omega) (lc_s hk) (by omega)
  refine this.cg (fun j hj => ?_)
  simp only [upd, ldV]
  by_cases e : j = 21 + k
  · subst e; rw [if_pos rfl, if_pos (by omega), show 21 + k - 21 = k by omega]
  · rw [if_neg e]
    by_cases q : 21 ≤ j ∧ j < 21 + k
    · rw [if_pos q, if_pos (by omega)]
    · rw [if_neg q, if_neg (by omega)]
def jdN (f g : Nat → Int32) (m : Nat) : Nat → Nat → Int32
  | 0, _ => 0
  | n + 1, k => if k < m then (if k < 16 ∧ f k = g k then jdN f g m n (k + 1) else 1 + nI k) else 0

set_option maxHeartbeats 4000000 in
set_option maxRecDepth 20000 in
theorem c_load (l : Launch) (G : GG) (σ : Sg) (hz : szP σ) (x : Int32) : Ct l G mX7_load 1 shT [.ref (ad G 0), .int x] σ (fun r τ => (¬ shP x ∧ fQ σ 0 r τ) ∨ ∃ s m, s < 4 ∧ x = nI s ∧ σ (57 + 2 * s) 2 = nI m ∧ m ≤ 40 ∧ ((σ (57 + 2 * s) 1 = 0 ∧ fQ σ 5 r τ) ∨ (¬ σ (57 + 2 * s) 1 = 0 ∧ r = some (.int (nI (ldN (σ (58 + 2 * s)) m 17 0))) ∧ isWr 1 σ τ (ldV (vw 1 σ) (σ (58 + 2 * s)) (ldN (σ (58 + 2 * s)) m 17 0))))) := by
  refine ct_intro (by decide) (Nat.le_of_ble_eq_true rfl) (fun X B R => ?_)
  show V X G shT σ [some (.ref (ad G 0)), some (.int x), none, none] [] 0
  refine r_iload_n (pc := 0) B dX7_load_0 rfl ?_
  refine r_cSi1 (pc := 1) B KX7_229 (c_isSheet l G _ _ _) (by decide) (Nat.le_of_ble_eq_true rfl) dX7_load_1 ?_
  refine r_if_ne (pc := 4) B 13 dX7_load_4 (by decide) (fun h4 => ?_) (fun h4 => ?_)
  · skip
    obtain ⟨s, hs1, hs2⟩ := sh_nI (bI_n.mp h4)
    obtain ⟨m, hm1, hm2⟩ := hz s hs1
    refine r_aload_n (pc := 13) B dX7_load_13 rfl ?_
    refine r_getr (pc := 14) B FX7_51 rfl rfl dX7_load_14 ?_
    refine r_iload_n (pc := 17) B dX7_load_17 rfl ?_
    refine r_aald (pc := 18) B rfl rfl (ix_eq (N := 4) hs2 hs1 (by decide)) (el_h hs1) dX7_load_18 ?_
    refine r_astore_2 (pc := 19) B dX7_load_19 (by decide) rfl ?_
    refine r_aload_n (pc := 20) B dX7_load_20 rfl ?_
    refine r_cVi0 (pc := 21) B KX7_236 (c_isMissing l G _ (H_s hs1)) (shH (H_s hs1)) rfl (by decide) (Nat.le_of_ble_eq_true rfl) dX7_load_21 ?_
    refine r_if_eq (pc := 24) B 33 dX7_load_24 (by decide) (fun h24 => ?_) (fun h24 => ?_)
    · skip
      refine r_iconst (pc := 33) (x := 0) B dX7_load_33 (by decide) ?_
      refine r_istore_3 (pc := 34) B dX7_load_34 (by decide) rfl ?_
      have hL35 : ∀ (n k : Nat) (ρ : Sg), k + n = 17 → isWr 1 σ ρ (ldV (vw 1 σ) (σ (58 + 2 * s)) k) → ldN (σ (58 + 2 * s)) m 17 0 = ldN (σ (58 + 2 * s)) m n k → k ≤ 16 → V X G shT ρ [some (.ref (ad G 0)), some (.int x), some (.ref (ad G (57 + 2 * s))), some (.int (nI k))] [] 35 := by
        intro n
        induction n with
        | zero => intro k ρ hk hw hp h16; omega
        | succ n ih =>
          intro k ρ hk hw hp h16
          have e1 : ρ (57 + 2 * s) 2 = nI m := by rw [hw.2 (57 + 2 * s) (by omega)]; exact hm2
          have e2 : ρ (57 + 2 * s + 1) = σ (58 + 2 * s) := by rw [hw.2 (57 + 2 * s + 1) (by omega), show 57 + 2 * s + 1 = 58 + 2 * s by omega]
          refine r_iload_n (pc := 35) B dX7_load_35 rfl ?_
          refine r_aload_n (pc := 36) B dX7_load_36 rfl ?_
          refine r_geti (pc := 37) B FX7_235 (shH (H_s hs1)) rfl dX7_load_37 ?_
          rw [e1]
          refine r_icmp_ge (pc := 40) B 87 dX7_load_40 (by decide) (fun h40 => ?_) (fun h40 => ?_)
          · skip
            have hg : ¬ (k < m ∧ k < 16 ∧ withinP (σ (58 + 2 * s) k) 99) := fun q => absurd ((nI_leI (a := m) (b := k) (by omega) (by omega)).mp h40) (by omega)
            refine r_iload_n (pc := 87) B dX7_load_87 rfl ?_
            exact r_iret (pc := 88) B R dX7_load_88 (Or.inr ⟨s, m, hs1, hs2, hm2, hm1, Or.inr ⟨bI_0.mp h24, by rw [hp, ldN, if_neg hg], by rw [hp, ldN, if_neg hg]; exact hw⟩⟩)
          · skip
            have hkm : k < m := nI_lt_of (by omega) (by omega) h40
            refine r_iload_n (pc := 43) B dX7_load_43 rfl ?_
            refine r_bipush (pc := 44) (x := 16) B dX7_load_44 (by decide) ?_
            refine r_icmp_ge (pc := 46) B 87 dX7_load_46 (by decide) (fun h46 => ?_) (fun h46 => ?_)
            · skip
              have hg : ¬ (k < m ∧ k < 16 ∧ withinP (σ (58 + 2 * s) k) 99) := fun q => absurd ((nI_leI (a := 16) (b := k) (by omega) (by omega)).mp h46) (by omega)
              refine r_iload_n (pc := 87) B dX7_load_87 rfl ?_
              exact r_iret (pc := 88) B R dX7_load_88 (Or.inr ⟨s, m, hs1, hs2, hm2, hm1, Or.inr ⟨bI_0.mp h24, by rw [hp, ldN, if_neg hg], by rw [hp, ldN, if_neg hg]; exact hw⟩⟩)
            · skip
              have hk16 : k < 16 := nI_lt_of (n := 16) (by omega) (by omega) h46
              refine r_aload_n (pc := 49) B dX7_load_49 rfl ?_
              refine r_getr (pc := 50) B FX7_248 (shH (H_s hs1)) rfl dX7_load_50 ?_
              refine r_iload_n (pc := 53) B dX7_load_53 rfl ?_
              refine r_iald (pc := 54) B (shH1 (H_s hs1)) (ix_nI (N := 40) (by omega) (by decide)) dX7_load_54 ?_
              rw [e2]
              refine r_bipush (pc := 55) (x := 99) B dX7_load_55 (by decide) ?_
              refine r_cSi2 (pc := 57) B KX7_83 (c_isWithin l G _ _ _ _) (by decide) (Nat.le_of_ble_eq_true rfl) dX7_load_57 ?_
              refine r_if_eq (pc := 60) B 87 dX7_load_60 (by decide) (fun h60 => ?_) (fun h60 => ?_)
              · skip
                have hg : ¬ (k < m ∧ k < 16 ∧ withinP (σ (58 + 2 * s) k) 99) := fun q => bI_0.mp h60 q.2.2
                refine r_iload_n (pc := 87) B dX7_load_87 rfl ?_
                exact r_iret (pc := 88) B R dX7_load_88 (Or.inr ⟨s, m, hs1, hs2, hm2, hm1, Or.inr ⟨bI_0.mp h24, by rw [hp, ldN, if_neg hg], by rw [hp, ldN, if_neg hg]; exact hw⟩⟩)
              · skip
                refine r_aload_n (pc := 63) B dX7_load_63 rfl ?_
                refine r_getr (pc := 64) B FX7_10 rfl rfl dX7_load_64 ?_
                refine r_getr (pc := 67) B FX7_68 rfl rfl dX7_load_67 ?_
                refine r_getr (pc := 70) B FX7_77 rfl rfl dX7_load_70 ?_
                refine r_iload_n (pc := 73) B dX7_load_73 rfl ?_
                refine r_aload_n (pc := 74) B dX7_load_74 rfl ?_
                refine r_getr (pc := 75) B FX7_248 (shH (H_s hs1)) rfl dX7_load_75 ?_
                refine r_iload_n (pc := 78) B dX7_load_78 rfl ?_
                refine r_iald (pc := 79) B (shH1 (H_s hs1)) (ix_nI (N := 40) (by omega) (by decide)) dX7_load_79 ?_
                rw [e2]
                refine r_iast (pc := 80) B rfl (ix_nI hk16 (by decide)) dX7_load_80 ?_
                refine r_iinc_3 (pc := 81) (y := _ + 1) B dX7_load_81 rfl (by decide) rfl ?_
                refine r_goto (pc := 84) B 35 dX7_load_84 (by decide) ?_
                rw [nI_1]
                exact ih (k + 1) _ (by omega) (wr_load hw hk16) (by rw [hp, ldN, if_pos ⟨hkm, hk16, bI_n.mp h60⟩]) (by omega)
      refine hL35 17 0 σ (by omega) ?_ rfl (by omega)
      exact (isWr.rf 1 σ).cg (fun j hj => by simp only [ldV]; rw [if_neg (by omega)])
    · skip
      refine r_aload_n (pc := 27) B dX7_load_27 rfl ?_
      refine r_iconst (pc := 28) (x := 5) B dX7_load_28 (by decide) ?_
      refine r_cVi1 (pc := 29) B KX7_64 (c_finding l G _ 5 (ix_of 5 rfl)) rfl rfl (by decide) (Nat.le_of_ble_eq_true rfl) dX7_load_29 ?_
      exact r_iret (pc := 32) B R dX7_load_32 (Or.inr ⟨s, m, hs1, hs2, hm2, hm1, Or.inl ⟨bI_n.mp h24, rfl, rfl⟩⟩)
  · skip
    refine r_aload_n (pc := 7) B dX7_load_7 rfl ?_
    refine r_iconst (pc := 8) (x := 0) B dX7_load_8 (by decide) ?_
    refine r_cVi1 (pc := 9) B KX7_64 (c_finding l G _ 0 (ix_of 0 rfl)) rfl rfl (by decide) (Nat.le_of_ble_eq_true rfl) dX7_load_9 ?_
    exact r_iret (pc := 12) B R dX7_load_12 (Or.inl ⟨fun q => bI_0.mp h4 q, rfl, rfl⟩)
set_option maxHeartbeats 4000000 in
set_option maxRecDepth 20000 in
theorem c_judge (l : Launch) (G : GG) (σ : Sg) (hz : szP σ) (x : Int32) : Ct l G mX7_judge 2 shT [.ref (ad G 0), .int x] σ (fun r τ => (¬ shP x ∧ fQ σ 0 r τ) ∨ ∃ s m, s < 4 ∧ x = nI s ∧ σ (57 + 2 * s) 2 = nI m ∧ m ≤ 40 ∧ ((σ (57 + 2 * s) 1 = 0 ∧ fQ σ 5 r τ) ∨ (¬ σ (57 + 2 * s) 1 = 0 ∧ r = some (.int (jdN (σ (58 + 2 * s)) (windF (σ 4) (σ 5) (σ 2 4) (σ 2 5)) m (m + 1) 0)) ∧ τ = σ))) := by
  refine ct_intro (by decide) (Nat.le_of_ble_eq_true rfl) (fun X B R => ?_)
  show V X G shT σ [some (.ref (ad G 0)), some (.int x), none, none] [] 0
  refine r_iload_n (pc := 0) B dX7_judge_0 rfl ?_
  refine r_cSi1 (pc := 1) B KX7_229 (c_isSheet l G _ _ _) (by decide) (Nat.le_of_ble_eq_true rfl) dX7_judge_1 ?_
  refine r_if_ne (pc := 4) B 13 dX7_judge_4 (by decide) (fun h4 => ?_) (fun h4 => ?_)
  · skip
    obtain ⟨s, hs1, hs2⟩ := sh_nI (bI_n.mp h4)
    obtain ⟨m, hm1, hm2⟩ := hz s hs1
    refine r_aload_n (pc := 13) B dX7_judge_13 rfl ?_
    refine r_getr (pc := 14) B FX7_51 rfl rfl dX7_judge_14 ?_
    refine r_iload_n (pc := 17) B dX7_judge_17 rfl ?_
    refine r_aald (pc := 18) B rfl rfl (ix_eq (N := 4) hs2 hs1 (by decide)) (el_h hs1) dX7_judge_18 ?_
    refine r_astore_2 (pc := 19) B dX7_judge_19 (by decide) rfl ?_
    refine r_aload_n (pc := 20) B dX7_judge_20 rfl ?_
    refine r_cVi0 (pc := 21) B KX7_236 (c_isMissing l G _ (H_s hs1)) (shH (H_s hs1)) rfl (by decide) (Nat.le_of_ble_eq_true rfl) dX7_judge_21 ?_
    refine r_if_eq (pc := 24) B 33 dX7_judge_24 (by decide) (fun h24 => ?_) (fun h24 => ?_)
    · skip
      refine r_iconst (pc := 33) (x := 0) B dX7_judge_33 (by decide) ?_
      refine r_istore_3 (pc := 34) B dX7_judge_34 (by decide) rfl ?_
      have hL35 : ∀ (n k : Nat), k + n = m + 1 → jdN (σ (58 + 2 * s)) (windF (σ 4) (σ 5) (σ 2 4) (σ 2 5)) m (m + 1) 0 = jdN (σ (58 + 2 * s)) (windF (σ 4) (σ 5) (σ 2 4) (σ 2 5)) m n k → k ≤ m → V X G shT σ [some (.ref (ad G 0)), some (.int x), some (.ref (ad G (57 + 2 * s))), some (.int (nI k))] [] 35 := by
        intro n
        induction n with
        | zero => intro k hk hp h16; omega
        | succ n ih =>
          intro k hk hp h16
          refine r_iload_n (pc := 35) B dX7_judge_35 rfl ?_
          refine r_aload_n (pc := 36) B dX7_judge_36 rfl ?_
          refine r_geti (pc := 37) B FX7_235 (shH (H_s hs1)) rfl dX7_judge_37 ?_
          rw [hm2]
          refine r_icmp_ge (pc := 40) B 80 dX7_judge_40 (by decide) (fun h40 => ?_) (fun h40 => ?_)
          · skip
            refine r_iconst (pc := 80) (x := 0) B dX7_judge_80 (by decide) ?_
            exact r_iret (pc := 81) B R dX7_judge_81 (Or.inr ⟨s, m, hs1, hs2, hm2, hm1, Or.inr ⟨bI_0.mp h24, by rw [hp, jdN, if_neg (fun q => absurd ((nI_leI (a := m) (b := k) (by omega) (by omega)).mp h40) (by omega))], rfl⟩⟩)
          · skip
            have hkm : k < m := nI_lt_of (by omega) (by omega) h40
            refine r_iload_n (pc := 43) B dX7_judge_43 rfl ?_
            refine r_cSi1 (pc := 44) B KX7_60 (c_isStep l G _ _ _) (by decide) (Nat.le_of_ble_eq_true rfl) dX7_judge_44 ?_
            refine r_if_eq (pc := 47) B 70 dX7_judge_47 (by decide) (fun h47 => ?_) (fun h47 => ?_)
            · skip
              have hg : ¬ (k < 16 ∧ σ (58 + 2 * s) k = windF (σ 4) (σ 5) (σ 2 4) (σ 2 5) k) := fun q => bI_0.mp h47 (nI_stepP q.1)
              refine r_iconst (pc := 70) (x := 1) B dX7_judge_70 (by decide) ?_
              refine r_iload_n (pc := 71) B dX7_judge_71 rfl ?_
              refine r_iadd (pc := 72) B dX7_judge_72 ?_
              exact r_iret (pc := 73) B R dX7_judge_73 (Or.inr ⟨s, m, hs1, hs2, hm2, hm1, Or.inr ⟨bI_0.mp h24, by rw [hp, jdN, if_pos hkm, if_neg hg], rfl⟩⟩)
            · skip
              have hk16 : k < 16 := by
                obtain ⟨j, hj, e⟩ := stepP_nI (bI_n.mp h47)
                have := (nI_eq (a := k) (b := j) (by omega) (by omega)).mp e
                omega
              refine r_aload_n (pc := 50) B dX7_judge_50 rfl ?_
              refine r_getr (pc := 51) B FX7_248 (shH (H_s hs1)) rfl dX7_judge_51 ?_
              refine r_iload_n (pc := 54) B dX7_judge_54 rfl ?_
              refine r_iald (pc := 55) B (shH1 (H_s hs1)) (ix_nI (N := 40) (by omega) (by decide)) dX7_judge_55 ?_
              rw [show 57 + 2 * s + 1 = 58 + 2 * s by omega]
              refine r_aload_n (pc := 56) B dX7_judge_56 rfl ?_
              refine r_getr (pc := 57) B FX7_10 rfl rfl dX7_judge_57 ?_
              refine r_getr (pc := 60) B FX7_68 rfl rfl dX7_judge_60 ?_
              refine r_iload_n (pc := 63) B dX7_judge_63 rfl ?_
              refine r_cVi1 (pc := 64) B KX7_87 (c_windOn l G _ S2 hk16) rfl rfl (by decide) (Nat.le_of_ble_eq_true rfl) dX7_judge_64 ?_
              refine r_icmp_eq (pc := 67) B 74 dX7_judge_67 (by decide) (fun h67 => ?_) (fun h67 => ?_)
              · skip
                refine r_iinc_3 (pc := 74) (y := _ + 1) B dX7_judge_74 rfl (by decide) rfl ?_
                refine r_goto (pc := 77) B 35 dX7_judge_77 (by decide) ?_
                rw [nI_1]
                exact ih (k + 1) (by omega) (by rw [hp, jdN, if_pos hkm, if_pos ⟨hk16, h67⟩]) (by omega)
              · skip
                have hg : ¬ (k < 16 ∧ σ (58 + 2 * s) k = windF (σ 4) (σ 5) (σ 2 4) (σ 2 5) k) := fun q => h67 q.2
                refine r_iconst (pc := 70) (x := 1) B dX7_judge_70 (by decide) ?_
                refine r_iload_n (pc := 71) B dX7_judge_71 rfl ?_
                refine r_iadd (pc := 72) B dX7_judge_72 ?_
                exact r_iret (pc := 73) B R dX7_judge_73 (Or.inr ⟨s, m, hs1, hs2, hm2, hm1, Or.inr ⟨bI_0.mp h24, by rw [hp, jdN, if_pos hkm, if_neg hg], rfl⟩⟩)
      exact hL35 (m + 1) 0 (by omega) rfl (by omega)
    · skip
      refine r_aload_n (pc := 27) B dX7_judge_27 rfl ?_
      refine r_iconst (pc := 28) (x := 5) B dX7_judge_28 (by decide) ?_
      refine r_cVi1 (pc := 29) B KX7_64 (c_finding l G _ 5 (ix_of 5 rfl)) rfl rfl (by decide) (Nat.le_of_ble_eq_true rfl) dX7_judge_29 ?_
      exact r_iret (pc := 32) B R dX7_judge_32 (Or.inr ⟨s, m, hs1, hs2, hm2, hm1, Or.inl ⟨bI_n.mp h24, rfl, rfl⟩⟩)
  · skip
    refine r_aload_n (pc := 7) B dX7_judge_7 rfl ?_
    refine r_iconst (pc := 8) (x := 0) B dX7_judge_8 (by decide) ?_
    refine r_cVi1 (pc := 9) B KX7_64 (c_finding l G _ 0 (ix_of 0 rfl)) rfl rfl (by decide) (Nat.le_of_ble_eq_true rfl) dX7_judge_9 ?_
    exact r_iret (pc := 12) B R dX7_judge_12 (Or.inl ⟨fun q => bI_0.mp h4 q, rfl, rfl⟩)
set_option maxHeartbeats 4000000 in
set_option maxRecDepth 20000 in
theorem c_image (l : Launch) (G : GG) (σ : Sg) : Ct l G mX7_image 3 shT [.ref (ad G 0)] σ (fun r τ => r = some (.int 1) ∧ ∃ ρ, isWr 16 σ ρ (vw 1 σ) ∧ τ = st2 ρ 0 3 1) := by
  refine ct_intro (by decide) (Nat.le_of_ble_eq_true rfl) (fun X B R => ?_)
  show V X G shT σ [some (.ref (ad G 0))] [] 0
  refine r_aload_n (pc := 0) B dX7_image_0 rfl ?_
  refine r_getr (pc := 1) B FX7_16 rfl rfl dX7_image_1 ?_
  refine r_aload_n (pc := 4) B dX7_image_4 rfl ?_
  refine r_getr (pc := 5) B FX7_10 rfl rfl dX7_image_5 ?_
  refine r_cVpv1 (pc := 8) B KX7_209 (c_become l G _ (Or.inr (Or.inl rfl)) W1 (by decide)) rfl rfl (by decide) (Nat.le_of_ble_eq_true rfl) dX7_image_8 (fun ρ hq => ?_)
  refine r_aload_n (pc := 11) B dX7_image_11 rfl ?_
  refine r_iconst (pc := 12) (x := 1) B dX7_image_12 (by decide) ?_
  refine r_putz (pc := 13) B PX7_22 (by decide) rfl rfl dX7_image_13 ?_
  refine r_iconst (pc := 16) (x := 1) B dX7_image_16 (by decide) ?_
  exact r_iret (pc := 17) B R dX7_image_17 ⟨rfl, _, hq, rfl⟩
set_option maxHeartbeats 4000000 in
set_option maxRecDepth 20000 in
theorem c_undo (l : Launch) (G : GG) (σ : Sg) : Ct l G mX7_undo 3 shT [.ref (ad G 0)] σ (fun r τ => (σ 0 3 = 0 ∧ fQ σ 3 r τ) ∨ (¬ σ 0 3 = 0 ∧ r = some (.int (vw 16 σ 1)) ∧ isWr 1 σ τ (vw 16 σ))) := by
  refine ct_intro (by decide) (Nat.le_of_ble_eq_true rfl) (fun X B R => ?_)
  show V X G shT σ [some (.ref (ad G 0))] [] 0
  refine r_aload_n (pc := 0) B dX7_undo_0 rfl ?_
  refine r_geti (pc := 1) B FX7_22 rfl rfl dX7_undo_1 ?_
  refine r_if_ne (pc := 4) B 13 dX7_undo_4 (by decide) (fun h4 => ?_) (fun h4 => ?_)
  · skip
    refine r_aload_n (pc := 13) B dX7_undo_13 rfl ?_
    refine r_getr (pc := 14) B FX7_10 rfl rfl dX7_undo_14 ?_
    refine r_aload_n (pc := 17) B dX7_undo_17 rfl ?_
    refine r_getr (pc := 18) B FX7_16 rfl rfl dX7_undo_18 ?_
    refine r_cVpv1 (pc := 21) B KX7_209 (c_become l G _ W1 (Or.inr (Or.inl rfl)) (by decide)) rfl rfl (by decide) (Nat.le_of_ble_eq_true rfl) dX7_undo_21 (fun ρ hq => ?_)
    refine r_aload_n (pc := 24) B dX7_undo_24 rfl ?_
    refine r_getr (pc := 25) B FX7_10 rfl rfl dX7_undo_25 ?_
    refine r_getr (pc := 28) B FX7_68 rfl rfl dX7_undo_28 ?_
    refine r_geti (pc := 31) B FX7_128 rfl rfl dX7_undo_31 ?_
    exact r_iret (pc := 34) B R dX7_undo_34 (Or.inr ⟨h4, by rw [← hq.1 1 (by omega), vw_1], hq⟩)
  · skip
    refine r_aload_n (pc := 7) B dX7_undo_7 rfl ?_
    refine r_iconst (pc := 8) (x := 3) B dX7_undo_8 (by decide) ?_
    refine r_cVi1 (pc := 9) B KX7_64 (c_finding l G _ 3 (ix_of 3 rfl)) rfl rfl (by decide) (Nat.le_of_ble_eq_true rfl) dX7_undo_9 ?_
    exact r_iret (pc := 12) B R dX7_undo_12 (Or.inl ⟨h4, rfl, rfl⟩)
set_option maxHeartbeats 4000000 in
set_option maxRecDepth 20000 in
theorem c_tear (l : Launch) (G : GG) (σ : Sg) : Ct l G mX7_tear 0 shT [.ref (ad G 0)] σ (fun r τ => r = some (.int (bI (¬ σ 0 3 = 0))) ∧ τ = st2 σ 0 3 0) := by
  refine ct_intro (by decide) (Nat.le_of_ble_eq_true rfl) (fun X B R => ?_)
  show V X G shT σ [some (.ref (ad G 0)), none] [] 0
  refine r_aload_n (pc := 0) B dX7_tear_0 rfl ?_
  refine r_geti (pc := 1) B FX7_22 rfl rfl dX7_tear_1 ?_
  refine r_bz_if_eq (pc := 4) B dX7_tear_4 dX7_tear_7 dX7_tear_8 dX7_tear_11 ?_
  refine r_istore_1 (pc := 12) B dX7_tear_12 (by decide) rfl ?_
  refine r_aload_n (pc := 13) B dX7_tear_13 rfl ?_
  refine r_iconst (pc := 14) (x := 0) B dX7_tear_14 (by decide) ?_
  refine r_putz (pc := 15) B PX7_22 (by decide) rfl rfl dX7_tear_15 ?_
  refine r_iload_n (pc := 18) B dX7_tear_18 rfl ?_
  exact r_iret (pc := 19) B R dX7_tear_19 ⟨rfl, rfl⟩
def ctF (σ : Sg) (N k : Nat) : Int32 := if k = 0 then σ 2 5 else if k = 1 then σ 1 2 else if k = 2 then bcF (orS (fun u => σ (8 + u) 1 = 16) (fun _ => inferInstance) N) else if k = 3 then sumS (fun u => σ (8 + u) 7) N else if k = 4 then sumS (fun u => σ (8 + u) 4) N else if k = 5 then σ 52 1 else if k = 6 then σ 1 4 else cnS (σ 7) 10

set_option maxHeartbeats 4000000 in
set_option maxRecDepth 20000 in
theorem c_count (l : Launch) (G : GG) (σ : Sg) {N : Nat} (hN8 : N ≤ 8) (hN : σ 1 2 = nI N) (a : Int32) : Ct l G mX7_count 2 shT [.ref (ad G 0), .int a] σ (fun r τ => (¬ withinP a 7 ∧ fQ σ 0 r τ) ∨ ∃ k, k < 8 ∧ a = nI k ∧ τ = σ ∧ r = some (.int (ctF σ N k))) := by
  refine ct_intro (by decide) (Nat.le_of_ble_eq_true rfl) (fun X B R => ?_)
  show V X G shT σ [some (.ref (ad G 0)), some (.int a)] [] 0
  refine r_iload_n (pc := 0) B dX7_count_0 rfl ?_
  refine r_tsC (pc := 1) B 0 48 dX7_count_1 (by decide) (by decide) rfl (by decide) (fun h1_0 => ?_) (fun h1_0 => ?_)
  · skip
    refine r_aload_n (pc := 48) B dX7_count_48 rfl ?_
    refine r_getr (pc := 49) B FX7_10 rfl rfl dX7_count_49 ?_
    refine r_getr (pc := 52) B FX7_68 rfl rfl dX7_count_52 ?_
    refine r_geti (pc := 55) B FX7_128 rfl rfl dX7_count_55 ?_
    exact r_iret (pc := 58) B R dX7_count_58 (Or.inr ⟨0, by omega, h1_0, rfl, rfl⟩)
  refine r_tsC (pc := 1) B 1 59 dX7_count_1 (by decide) (by decide) rfl (by decide) (fun h1_1 => ?_) (fun h1_1 => ?_)
  · skip
    refine r_aload_n (pc := 59) B dX7_count_59 rfl ?_
    refine r_getr (pc := 60) B FX7_10 rfl rfl dX7_count_60 ?_
    refine r_geti (pc := 63) B FX7_175 rfl rfl dX7_count_63 ?_
    exact r_iret (pc := 66) B R dX7_count_66 (Or.inr ⟨1, by omega, h1_1, rfl, rfl⟩)
  refine r_tsC (pc := 1) B 2 67 dX7_count_1 (by decide) (by decide) rfl (by decide) (fun h1_2 => ?_) (fun h1_2 => ?_)
  · skip
    refine r_aload_n (pc := 67) B dX7_count_67 rfl ?_
    refine r_getr (pc := 68) B FX7_10 rfl rfl dX7_count_68 ?_
    refine r_iconst (pc := 71) (x := 1) B dX7_count_71 (by decide) ?_
    refine r_bipush (pc := 72) (x := 16) B dX7_count_72 (by decide) ?_
    refine r_cVi2 (pc := 74) B KX7_90 (c_setOf l G _ W1 (f := 1) hN8 hN (by omega) _) rfl rfl (by decide) (Nat.le_of_ble_eq_true rfl) dX7_count_74 ?_
    refine r_cSi1 (pc := 77) B KX7_195 (c_bitCount l G _ _ _) (by decide) (Nat.le_of_ble_eq_true rfl) dX7_count_77 ?_
    exact r_iret (pc := 80) B R dX7_count_80 (Or.inr ⟨2, by omega, h1_2, rfl, rfl⟩)
  refine r_tsC (pc := 1) B 3 81 dX7_count_1 (by decide) (by decide) rfl (by decide) (fun h1_3 => ?_) (fun h1_3 => ?_)
  · skip
    refine r_aload_n (pc := 81) B dX7_count_81 rfl ?_
    refine r_getr (pc := 82) B FX7_10 rfl rfl dX7_count_82 ?_
    refine r_bipush (pc := 85) (x := 7) B dX7_count_85 (by decide) ?_
    refine r_cVi1 (pc := 87) B KX7_152 (c_sumOf l G _ W1 (f := 7) hN8 hN (by omega)) rfl rfl (by decide) (Nat.le_of_ble_eq_true rfl) dX7_count_87 ?_
    exact r_iret (pc := 90) B R dX7_count_90 (Or.inr ⟨3, by omega, h1_3, rfl, rfl⟩)
  refine r_tsC (pc := 1) B 4 91 dX7_count_1 (by decide) (by decide) rfl (by decide) (fun h1_4 => ?_) (fun h1_4 => ?_)
  · skip
    refine r_aload_n (pc := 91) B dX7_count_91 rfl ?_
    refine r_getr (pc := 92) B FX7_10 rfl rfl dX7_count_92 ?_
    refine r_iconst (pc := 95) (x := 4) B dX7_count_95 (by decide) ?_
    refine r_cVi1 (pc := 96) B KX7_152 (c_sumOf l G _ W1 (f := 4) hN8 hN (by omega)) rfl rfl (by decide) (Nat.le_of_ble_eq_true rfl) dX7_count_96 ?_
    exact r_iret (pc := 99) B R dX7_count_99 (Or.inr ⟨4, by omega, h1_4, rfl, rfl⟩)
  refine r_tsC (pc := 1) B 5 100 dX7_count_1 (by decide) (by decide) rfl (by decide) (fun h1_5 => ?_) (fun h1_5 => ?_)
  · skip
    refine r_aload_n (pc := 100) B dX7_count_100 rfl ?_
    refine r_getr (pc := 101) B FX7_36 rfl rfl dX7_count_101 ?_
    refine r_geti (pc := 104) B FX7_203 rfl rfl dX7_count_104 ?_
    exact r_iret (pc := 107) B R dX7_count_107 (Or.inr ⟨5, by omega, h1_5, rfl, rfl⟩)
  refine r_tsC (pc := 1) B 6 108 dX7_count_1 (by decide) (by decide) rfl (by decide) (fun h1_6 => ?_) (fun h1_6 => ?_)
  · skip
    refine r_aload_n (pc := 108) B dX7_count_108 rfl ?_
    refine r_getr (pc := 109) B FX7_10 rfl rfl dX7_count_109 ?_
    refine r_geti (pc := 112) B FX7_200 rfl rfl dX7_count_112 ?_
    exact r_iret (pc := 115) B R dX7_count_115 (Or.inr ⟨6, by omega, h1_6, rfl, rfl⟩)
  refine r_tsC (pc := 1) B 7 116 dX7_count_1 (by decide) (by decide) rfl (by decide) (fun h1_7 => ?_) (fun h1_7 => ?_)
  · skip
    refine r_aload_n (pc := 116) B dX7_count_116 rfl ?_
    refine r_getr (pc := 117) B FX7_10 rfl rfl dX7_count_117 ?_
    refine r_cVi0 (pc := 120) B KX7_257 (c_spotsHolding l G _ W1) rfl rfl (by decide) (Nat.le_of_ble_eq_true rfl) dX7_count_120 ?_
    exact r_iret (pc := 123) B R dX7_count_123 (Or.inr ⟨7, by omega, h1_7, rfl, rfl⟩)
  refine r_tsD (pc := 1) B 124 dX7_count_1 (by have e0 := ts_in (c := 0) h1_0 rfl; have e1 := ts_in (c := 1) h1_1 rfl; have e2 := ts_in (c := 2) h1_2 rfl; have e3 := ts_in (c := 3) h1_3 rfl; have e4 := ts_in (c := 4) h1_4 rfl; have e5 := ts_in (c := 5) h1_5 rfl; have e6 := ts_in (c := 6) h1_6 rfl; have e7 := ts_in (c := 7) h1_7 rfl; omega) (by decide) ?_
  refine r_aload_n (pc := 124) B dX7_count_124 rfl ?_
  refine r_iconst (pc := 125) (x := 0) B dX7_count_125 (by decide) ?_
  refine r_cVi1 (pc := 126) B KX7_64 (c_finding l G _ 0 (ix_of 0 rfl)) rfl rfl (by decide) (Nat.le_of_ble_eq_true rfl) dX7_count_126 ?_
  exact r_iret (pc := 129) B R dX7_count_129 (Or.inl ⟨fun q => by obtain ⟨k, hk, rfl⟩ := wi_nI (g := 7) (by omega) q; have := nI_nis (c := 0) h1_0 rfl; have := nI_nis (c := 1) h1_1 rfl; have := nI_nis (c := 2) h1_2 rfl; have := nI_nis (c := 3) h1_3 rfl; have := nI_nis (c := 4) h1_4 rfl; have := nI_nis (c := 5) h1_5 rfl; have := nI_nis (c := 6) h1_6 rfl; have := nI_nis (c := 7) h1_7 rfl; omega, rfl, rfl⟩)
set_option maxHeartbeats 4000000 in
set_option maxRecDepth 20000 in
theorem c_status (l : Launch) (G : GG) (σ : Sg) (a : Int32) : Ct l G mX7_status 1 shT [.ref (ad G 0), .int a] σ (fun r τ => ((a < -1 ∨ ¬ a < 7) ∧ fQ σ 0 r τ) ∨ (¬ a < -1 ∧ a < 7 ∧ a < 0 ∧ r = some (.int (sumS (σ 56) 7)) ∧ τ = σ) ∨ ∃ k, k < 7 ∧ a = nI k ∧ r = some (.int (σ 56 k)) ∧ τ = σ) := by
  refine ct_intro (by decide) (Nat.le_of_ble_eq_true rfl) (fun X B R => ?_)
  show V X G shT σ [some (.ref (ad G 0)), some (.int a), none, none] [] 0
  refine r_iload_n (pc := 0) B dX7_status_0 rfl ?_
  refine r_iconst (pc := 1) (x := (-1)) B dX7_status_1 (by decide) ?_
  refine r_icmp_lt (pc := 2) B 11 dX7_status_2 (by decide) (fun h2 => ?_) (fun h2 => ?_)
  · skip
    refine r_aload_n (pc := 11) B dX7_status_11 rfl ?_
    refine r_iconst (pc := 12) (x := 0) B dX7_status_12 (by decide) ?_
    refine r_cVi1 (pc := 13) B KX7_64 (c_finding l G _ 0 (ix_of 0 rfl)) rfl rfl (by decide) (Nat.le_of_ble_eq_true rfl) dX7_status_13 ?_
    exact r_iret (pc := 16) B R dX7_status_16 (Or.inl ⟨by first | exact Or.inl h2 | exact Or.inr h8, rfl, rfl⟩)
  · skip
    refine r_iload_n (pc := 5) B dX7_status_5 rfl ?_
    refine r_bipush (pc := 6) (x := 7) B dX7_status_6 (by decide) ?_
    refine r_icmp_lt (pc := 8) B 17 dX7_status_8 (by decide) (fun h8 => ?_) (fun h8 => ?_)
    · skip
      refine r_iload_n (pc := 17) B dX7_status_17 rfl ?_
      refine r_if_lt (pc := 18) B 28 dX7_status_18 (by decide) (fun h18 => ?_) (fun h18 => ?_)
      · skip
        refine r_iconst (pc := 28) (x := 0) B dX7_status_28 (by decide) ?_
        refine r_istore_2 (pc := 29) B dX7_status_29 (by decide) rfl ?_
        refine r_iconst (pc := 30) (x := 0) B dX7_status_30 (by decide) ?_
        refine r_istore_3 (pc := 31) B dX7_status_31 (by decide) rfl ?_
        have hL32 : ∀ (n i : Nat) (q : Int32), i ≤ 7 → 8 ≤ i + n → q = sumS (σ 56) i → V X G shT σ [some (.ref (ad G 0)), some (.int a), some (.int q), some (.int (nI i))] [] 32 := by
          intro n
          induction n with
          | zero => intro i q h1 h2; omega
          | succ n ih =>
            intro i q hi hn hq
            refine r_iload_n (pc := 32) B dX7_status_32 rfl ?_
            refine r_bipush (pc := 33) (x := 7) B dX7_status_33 (by decide) ?_
            refine r_icmp_ge (pc := 35) B 53 dX7_status_35 (by decide) (fun h35 => ?_) (fun h35 => ?_)
            · skip
              have eN : i = 7 := by have := nI_ge_of (n := 7) (by omega) (by omega) h35; omega
              subst eN
              refine r_iload_n (pc := 53) B dX7_status_53 rfl ?_
              exact r_iret (pc := 54) B R dX7_status_54 (Or.inr (Or.inl ⟨h2, h8, h18, by rw [hq], rfl⟩))
            · skip
              have hiN : i < 7 := nI_lt_of (n := 7) (by omega) (by omega) h35
              refine r_iload_n (pc := 38) B dX7_status_38 rfl ?_
              refine r_aload_n (pc := 39) B dX7_status_39 rfl ?_
              refine r_getr (pc := 40) B FX7_55 rfl rfl dX7_status_40 ?_
              refine r_iload_n (pc := 43) B dX7_status_43 rfl ?_
              refine r_iald (pc := 44) B rfl (ix_nI hiN (by decide)) dX7_status_44 ?_
              refine r_iadd (pc := 45) B dX7_status_45 ?_
              refine r_istore_2 (pc := 46) B dX7_status_46 (by decide) rfl ?_
              refine r_iinc_3 (pc := 47) (y := _ + 1) B dX7_status_47 rfl (by decide) rfl ?_
              refine r_goto (pc := 50) B 32 dX7_status_50 (by decide) ?_
              rw [nI_1]
              exact ih (i + 1) _ hiN (by omega) (by rw [sumS, hq])
        exact hL32 8 0 0 (by omega) (by omega) rfl
      · skip
        obtain ⟨k, hk1, hk2⟩ := ix_lt (N := 7) h18 h8 (by omega)
        refine r_aload_n (pc := 21) B dX7_status_21 rfl ?_
        refine r_getr (pc := 22) B FX7_55 rfl rfl dX7_status_22 ?_
        refine r_iload_n (pc := 25) B dX7_status_25 rfl ?_
        refine r_iald (pc := 26) B rfl (ix_eq hk2 hk1 (by decide)) dX7_status_26 ?_
        exact r_iret (pc := 27) B R dX7_status_27 (Or.inr (Or.inr ⟨k, hk1, hk2, rfl, rfl⟩))
    · skip
      refine r_aload_n (pc := 11) B dX7_status_11 rfl ?_
      refine r_iconst (pc := 12) (x := 0) B dX7_status_12 (by decide) ?_
      refine r_cVi1 (pc := 13) B KX7_64 (c_finding l G _ 0 (ix_of 0 rfl)) rfl rfl (by decide) (Nat.le_of_ble_eq_true rfl) dX7_status_13 ?_
      exact r_iret (pc := 16) B R dX7_status_16 (Or.inl ⟨by first | exact Or.inl h2 | exact Or.inr h8, rfl, rfl⟩)
set_option maxHeartbeats 4000000 in
set_option maxRecDepth 20000 in
theorem c_seed (l : Launch) (G : GG) (σ : Sg) (v : Int32) : Ct l G mX7_seed 0 shT [.ref (ad G 0), .int v] σ (fun r τ => r = some (.int (σ 1 4)) ∧ τ = st2 σ 1 4 v) := by
  refine ct_intro (by decide) (Nat.le_of_ble_eq_true rfl) (fun X B R => ?_)
  show V X G shT σ [some (.ref (ad G 0)), some (.int v), none] [] 0
  refine r_aload_n (pc := 0) B dX7_seed_0 rfl ?_
  refine r_getr (pc := 1) B FX7_10 rfl rfl dX7_seed_1 ?_
  refine r_geti (pc := 4) B FX7_200 rfl rfl dX7_seed_4 ?_
  refine r_istore_2 (pc := 7) B dX7_seed_7 (by decide) rfl ?_
  refine r_aload_n (pc := 8) B dX7_seed_8 rfl ?_
  refine r_getr (pc := 9) B FX7_10 rfl rfl dX7_seed_9 ?_
  refine r_iload_n (pc := 12) B dX7_seed_12 rfl ?_
  refine r_puti (pc := 13) B PX7_200 rfl rfl dX7_seed_13 ?_
  refine r_iload_n (pc := 16) B dX7_seed_16 rfl ?_
  exact r_iret (pc := 17) B R dX7_seed_17 ⟨rfl, rfl⟩
set_option maxHeartbeats 4000000 in
set_option maxRecDepth 20000 in
theorem c_wipe (l : Launch) (G : GG) (σ : Sg) : Ct l G mX7_wipe 0 shT [.ref (ad G 0)] σ (fun r τ => r = some (.int (σ 52 1)) ∧ τ = st2 σ 52 1 0) := by
  refine ct_intro (by decide) (Nat.le_of_ble_eq_true rfl) (fun X B R => ?_)
  show V X G shT σ [some (.ref (ad G 0)), none] [] 0
  refine r_aload_n (pc := 0) B dX7_wipe_0 rfl ?_
  refine r_getr (pc := 1) B FX7_36 rfl rfl dX7_wipe_1 ?_
  refine r_geti (pc := 4) B FX7_203 rfl rfl dX7_wipe_4 ?_
  refine r_istore_1 (pc := 7) B dX7_wipe_7 (by decide) rfl ?_
  refine r_aload_n (pc := 8) B dX7_wipe_8 rfl ?_
  refine r_getr (pc := 9) B FX7_36 rfl rfl dX7_wipe_9 ?_
  refine r_iconst (pc := 12) (x := 0) B dX7_wipe_12 (by decide) ?_
  refine r_puti (pc := 13) B PX7_203 rfl rfl dX7_wipe_13 ?_
  refine r_iload_n (pc := 16) B dX7_wipe_16 rfl ?_
  exact r_iret (pc := 17) B R dX7_wipe_17 ⟨rfl, rfl⟩
set_option maxHeartbeats 4000000 in
set_option maxRecDepth 20000 in
theorem c_feed (l : Launch) (G : GG) (σ : Sg) (b n : Int32) {L : Nat} (hL8 : L ≤ 120) (hL : σ 52 1 = nI L) : Ct l G mX7_feed 1 shT [.ref (ad G 0), .int b, .int n] σ (fun r τ => ((n < 1 ∨ ¬ n ≤ 4) ∧ fQ σ 0 r τ) ∨ ∃ m, 1 ≤ m ∧ m ≤ 4 ∧ n = nI m ∧ ((120 < L + m ∧ fQ σ 1 r τ) ∨ (L + m ≤ 120 ∧ r = some (.int (nI (L + m))) ∧ τ = apT σ b L m))) := by
  refine ct_intro (by decide) (Nat.le_of_ble_eq_true rfl) (fun X B R => ?_)
  show V X G shT σ [some (.ref (ad G 0)), some (.int b), some (.int n)] [] 0
  refine r_iload_n (pc := 0) B dX7_feed_0 rfl ?_
  refine r_iconst (pc := 1) (x := 1) B dX7_feed_1 (by decide) ?_
  refine r_icmp_lt (pc := 2) B 10 dX7_feed_2 (by decide) (fun h2 => ?_) (fun h2 => ?_)
  · skip
    refine r_aload_n (pc := 10) B dX7_feed_10 rfl ?_
    refine r_iconst (pc := 11) (x := 0) B dX7_feed_11 (by decide) ?_
    refine r_cVi1 (pc := 12) B KX7_64 (c_finding l G _ 0 (ix_of 0 rfl)) rfl rfl (by decide) (Nat.le_of_ble_eq_true rfl) dX7_feed_12 ?_
    exact r_iret (pc := 15) B R dX7_feed_15 (Or.inl ⟨by first | exact Or.inl h2 | exact Or.inr h7, rfl, rfl⟩)
  · skip
    refine r_iload_n (pc := 5) B dX7_feed_5 rfl ?_
    refine r_iconst (pc := 6) (x := 4) B dX7_feed_6 (by decide) ?_
    refine r_icmp_le (pc := 7) B 16 dX7_feed_7 (by decide) (fun h7 => ?_) (fun h7 => ?_)
    · skip
      obtain ⟨m, hm1, hm2, hm3⟩ : ∃ m, 1 ≤ m ∧ m ≤ 4 ∧ n = nI m := by
        obtain ⟨m, h9, rfl⟩ := nI_of (x := n) (fun q => h2 (by grind))
        refine ⟨m, ?_, (nI_leI (b := 4) h9 (by omega)).mp h7, rfl⟩
        rcases Nat.lt_or_ge m 1 with q | q
        · exact absurd ((nI_ltI (b := 1) h9 (by omega)).mpr q) h2
        · exact q
      rw [hm3]
      refine r_aload_n (pc := 16) B dX7_feed_16 rfl ?_
      refine r_getr (pc := 17) B FX7_36 rfl rfl dX7_feed_17 ?_
      refine r_geti (pc := 20) B FX7_203 rfl rfl dX7_feed_20 ?_
      rw [hL]
      refine r_iload_n (pc := 23) B dX7_feed_23 rfl ?_
      refine r_iadd (pc := 24) B dX7_feed_24 ?_
      rw [nI_add]
      refine r_bipush (pc := 25) (x := 120) B dX7_feed_25 (by decide) ?_
      refine r_icmp_le (pc := 27) B 36 dX7_feed_27 (by decide) (fun h27 => ?_) (fun h27 => ?_)
      · skip
        have h120 : L + m ≤ 120 := (nI_leI (b := 120) (by omega) (by omega)).mp h27
        refine r_aload_n (pc := 36) B dX7_feed_36 rfl ?_
        refine r_getr (pc := 37) B FX7_36 rfl rfl dX7_feed_37 ?_
        refine r_iload_n (pc := 40) B dX7_feed_40 rfl ?_
        refine r_iload_n (pc := 41) B dX7_feed_41 rfl ?_
        refine r_cVv2 (pc := 42) B KX7_206 (c_append l G _ _ hL h120) rfl rfl (by decide) (Nat.le_of_ble_eq_true rfl) dX7_feed_42 ?_
        refine r_aload_n (pc := 45) B dX7_feed_45 rfl ?_
        refine r_getr (pc := 46) B FX7_36 rfl rfl dX7_feed_46 ?_
        refine r_geti (pc := 49) B FX7_203 rfl rfl dX7_feed_49 ?_
        exact r_iret (pc := 52) B R dX7_feed_52 (Or.inr ⟨m, hm1, hm2, hm3, Or.inr ⟨h120, rfl, rfl⟩⟩)
      · skip
        have h120 : 120 < L + m := by
          rcases Nat.lt_or_ge 120 (L + m) with q | q
          · exact q
          · exact absurd ((nI_leI (b := 120) (by omega) (by omega)).mpr q) h27
        refine r_aload_n (pc := 30) B dX7_feed_30 rfl ?_
        refine r_iconst (pc := 31) (x := 1) B dX7_feed_31 (by decide) ?_
        refine r_cVi1 (pc := 32) B KX7_64 (c_finding l G _ 1 (ix_of 1 rfl)) rfl rfl (by decide) (Nat.le_of_ble_eq_true rfl) dX7_feed_32 ?_
        exact r_iret (pc := 35) B R dX7_feed_35 (Or.inr ⟨m, hm1, hm2, hm3, Or.inl ⟨h120, rfl, rfl⟩⟩)
    · skip
      refine r_aload_n (pc := 10) B dX7_feed_10 rfl ?_
      refine r_iconst (pc := 11) (x := 0) B dX7_feed_11 (by decide) ?_
      refine r_cVi1 (pc := 12) B KX7_64 (c_finding l G _ 0 (ix_of 0 rfl)) rfl rfl (by decide) (Nat.le_of_ble_eq_true rfl) dX7_feed_12 ?_
      exact r_iret (pc := 15) B R dX7_feed_15 (Or.inl ⟨by first | exact Or.inl h2 | exact Or.inr h7, rfl, rfl⟩)

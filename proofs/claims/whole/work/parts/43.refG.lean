/-! odds of the reference -/
abbrev evP (p : Int64 × Int64) : Prop := p.1 - p.1 / 2 * 2 = 0 ∧ p.2 - p.2 / 2 * 2 = 0
def rdN : Nat → Int64 × Int64 → Int64 × Int64
  | 0, p => p
  | n + 1, p => if evP p then rdN n (p.1 / 2, p.2 / 2) else p
def rdB : Nat → Int64 × Int64 → Bool
  | 0, p => !decide (evP p)
  | n + 1, p => if evP p then rdB n (p.1 / 2, p.2 / 2) else true
def odP (a : Nat) (m : Nat) : Int64 × Int64 := (pwN (nI a).toInt64 m, if pwN (nI a).toInt64 m = 0 then 1 else pwN 16 m)
theorem od_all : ∀ a, a < 17 → ∀ m, m < 16 → rdB 64 (odP a m) = true ∧ (rdN 64 (odP a m)).1 = odC (nI a) 0 m ∧ (rdN 64 (odP a m)).2 = odC (nI a) 1 m := by decide +kernel

set_option maxHeartbeats 4000000 in
set_option maxRecDepth 20000 in
theorem e_odds (l : Launch) (G : GG) (σ : Sg) (hW : WR (σ 66)) (n a : Int32) : Ct l G mX8_odds 1 shT [.ref (ad G 65), .int n, .int a] σ (fun r τ => (¬ (withinP n 15 ∧ withinP a 1) ∧ r = some (.long (fA 0).toInt64) ∧ τ = fnR σ 0) ∨ ∃ m k, m ≤ 15 ∧ n = nI m ∧ k < 2 ∧ a = nI k ∧ τ = σ ∧ r = some (.long (odC (bcF (orS (fun k => σ 66 (37 + k) = 1) (fun _ => inferInstance) 16)) k m))) := by
  refine ct_intro (by decide) (Nat.le_of_ble_eq_true rfl) (fun X B R => ?_)
  show V X G shT σ [some (.ref (ad G 65)), some (.int n), some (.int a), none, none, none, none, none, none] [] 0
  refine r_iload_n (pc := 0) B dX8_odds_0 rfl ?_
  refine r_i2l (pc := 1) B dX8_odds_1 ?_
  refine r_lconst (pc := 2) (x := 0) B dX8_odds_2 rfl ?_
  refine r_ldc2_w (pc := 3) B q1089 dX8_odds_3 ?_
  refine r_cSi3 (pc := 6) B KX8_49 (e_isIn l G _ _ (v := n) (a := 0) (b := 15) rfl rfl rfl) (by decide) (Nat.le_of_ble_eq_true rfl) dX8_odds_6 ?_
  refine r_if_eq (pc := 9) B 22 dX8_odds_9 (by decide) (fun h9 => ?_) (fun h9 => ?_)
  · skip
    refine r_aload_n (pc := 22) B dX8_odds_22 rfl ?_
    refine r_ldc (pc := 23) B q836 dX8_odds_23 ?_
    refine r_cVi1 (pc := 25) B KX8_39 (e_finds l G _ (j := 0) rfl (by decide)) rfl rfl (by decide) (Nat.le_of_ble_eq_true rfl) dX8_odds_25 ?_
    refine r_i2l (pc := 28) B dX8_odds_28 ?_
    exact r_lret (pc := 29) B R dX8_odds_29 (Or.inl ⟨by first | exact fun q => bI_0.mp h9 q.1 | exact fun q => bI_0.mp h19 q.2, rfl, rfl⟩)
  · skip
    obtain ⟨m, hm, hn⟩ := wi_nI (g := 15) (by decide) (bI_n.mp h9)
    refine r_iload_n (pc := 12) B dX8_odds_12 rfl ?_
    refine r_i2l (pc := 13) B dX8_odds_13 ?_
    refine r_lconst (pc := 14) (x := 0) B dX8_odds_14 rfl ?_
    refine r_lconst (pc := 15) (x := 1) B dX8_odds_15 rfl ?_
    refine r_cSi3 (pc := 16) B KX8_49 (e_isIn l G _ _ (v := a) (a := 0) (b := 1) rfl rfl rfl) (by decide) (Nat.le_of_ble_eq_true rfl) dX8_odds_16 ?_
    refine r_if_ne (pc := 19) B 30 dX8_odds_19 (by decide) (fun h19 => ?_) (fun h19 => ?_)
    · skip
      obtain ⟨k, hk, ha⟩ := wi_nI (g := 1) (by decide) (bI_n.mp h19)
      refine r_lconst (pc := 30) (x := 1) B dX8_odds_30 rfl ?_
      refine r_lstore_3 (pc := 31) B dX8_odds_31 (by decide) rfl ?_
      refine r_lconst (pc := 32) (x := 1) B dX8_odds_32 rfl ?_
      refine r_lstore_5 (pc := 33) B dX8_odds_33 (by decide) rfl ?_
      refine r_aload_n (pc := 35) B dX8_odds_35 rfl ?_
      refine r_cVi0 (pc := 36) B KX8_135 (e_roofs l G _ hW) rfl rfl (by decide) (Nat.le_of_ble_eq_true rfl) dX8_odds_36 ?_
      obtain ⟨v, hv1, hv2⟩ := orS_nI (fun k => σ 66 (37 + k) = 1) (fun _ => inferInstance) 16 (by omega)
      have hv16 : v < 65536 := hv1
      have hA := (bq_v hv16).2.2
      have hb := mn_bc hv16
      refine r_cSi1 (pc := 39) B KX8_204 (e_many l G _ _ hv2 hv16) (by decide) (Nat.le_of_ble_eq_true rfl) dX8_odds_39 ?_
      rw [← hv2] at hb
      generalize hAe : mnN 17 v = A at *
      obtain ⟨o1, o2, o3⟩ := od_all A (by omega) m (by omega)
      refine r_istore_7 (pc := 42) B dX8_odds_42 (by decide) rfl ?_
      have hJ125 : ∀ (P Q : Int64) (i : Nat), (P, Q) = rdN 64 (odP A m) → V X G shT σ [some (.ref (ad G 65)), some (.int n), some (.int a), some (.long P), none, some (.long Q), none, some (.int (nI A)), some (.int (nI i))] [] 125 := by
        intro P Q i hpq
        refine r_iload_n (pc := 125) B dX8_odds_125 rfl ?_
        refine r_if_ne (pc := 126) B 133 dX8_odds_126 (by decide) (fun h126 => ?_) (fun h126 => ?_)
        · skip
          have hk1 : k = 1 := by rcases Nat.eq_zero_or_pos k with q | q; exact absurd (by rw [ha, q]; rfl) h126; omega
          refine r_lload (pc := 133) B dX8_odds_133 rfl ?_
          exact r_lret (pc := 135) B R dX8_odds_135 (Or.inr ⟨m, k, hm, hn, by omega, ha, rfl, by first | (rw [hk0, ← hb, ← o2, ← hpq]) | (rw [hk1, ← hb, ← o3, ← hpq])⟩)
        · skip
          have hk0 : k = 0 := (nI_eq (b := 0) (by omega) (by omega)).mp (ha.symm.trans h126)
          refine r_lload_n (pc := 129) B dX8_odds_129 rfl ?_
          refine r_goto (pc := 130) B 135 dX8_odds_130 (by decide) ?_
          exact r_lret (pc := 135) B R dX8_odds_135 (Or.inr ⟨m, k, hm, hn, by omega, ha, rfl, by first | (rw [hk0, ← hb, ← o2, ← hpq]) | (rw [hk1, ← hb, ← o3, ← hpq])⟩)
      have hJ87 : ∀ (z : Nat) (P Q : Int64) (i : Nat), rdB z (P, Q) = true → rdN z (P, Q) = rdN 64 (odP A m) → V X G shT σ [some (.ref (ad G 65)), some (.int n), some (.int a), some (.long P), none, some (.long Q), none, some (.int (nI A)), some (.int (nI i))] [] 87 := by
        intro z
        induction z with
        | zero =>
          intro P Q i hrb hrn
          refine r_lload_n (pc := 87) B dX8_odds_87 rfl ?_
          refine r_ldc2_w (pc := 88) B q831 dX8_odds_88 ?_
          refine r_lrem (pc := 91) B (by decide) dX8_odds_91 ?_
          refine r_lconst (pc := 92) (x := 0) B dX8_odds_92 rfl ?_
          refine r_lcmp (pc := 93) B dX8_odds_93 ?_
          refine r_if_ne (pc := 94) B 125 dX8_odds_94 (by decide) (fun h94 => ?_) (fun h94 => ?_)
          · skip
            exact hJ125 P Q i hrn
          · skip
            refine r_lload (pc := 97) B dX8_odds_97 rfl ?_
            refine r_ldc2_w (pc := 99) B q831 dX8_odds_99 ?_
            refine r_lrem (pc := 102) B (by decide) dX8_odds_102 ?_
            refine r_lconst (pc := 103) (x := 0) B dX8_odds_103 rfl ?_
            refine r_lcmp (pc := 104) B dX8_odds_104 ?_
            refine r_if_ne (pc := 105) B 125 dX8_odds_105 (by decide) (fun h105 => ?_) (fun h105 => ?_)
            · skip
              exact hJ125 P Q i hrn
            · skip
              exact absurd hrb (by unfold rdB; rw [decide_eq_true (show evP (P, Q) from ⟨(lg_cmp_eq _ _).mp h94, (lg_cmp_eq _ _).mp h105⟩)]; decide)
        | succ z ih =>
          intro P Q i hrb hrn
          refine r_lload_n (pc := 87) B dX8_odds_87 rfl ?_
          refine r_ldc2_w (pc := 88) B q831 dX8_odds_88 ?_
          refine r_lrem (pc := 91) B (by decide) dX8_odds_91 ?_
          refine r_lconst (pc := 92) (x := 0) B dX8_odds_92 rfl ?_
          refine r_lcmp (pc := 93) B dX8_odds_93 ?_
          refine r_if_ne (pc := 94) B 125 dX8_odds_94 (by decide) (fun h94 => ?_) (fun h94 => ?_)
          · skip
            exact hJ125 P Q i (by rw [← hrn, rdN, if_neg (by first | exact fun q => h94 ((lg_cmp_eq _ _).mpr q.1) | exact fun q => h105 ((lg_cmp_eq _ _).mpr q.2))])
          · skip
            refine r_lload (pc := 97) B dX8_odds_97 rfl ?_
            refine r_ldc2_w (pc := 99) B q831 dX8_odds_99 ?_
            refine r_lrem (pc := 102) B (by decide) dX8_odds_102 ?_
            refine r_lconst (pc := 103) (x := 0) B dX8_odds_103 rfl ?_
            refine r_lcmp (pc := 104) B dX8_odds_104 ?_
            refine r_if_ne (pc := 105) B 125 dX8_odds_105 (by decide) (fun h105 => ?_) (fun h105 => ?_)
            · skip
              exact hJ125 P Q i (by rw [← hrn, rdN, if_neg (by first | exact fun q => h94 ((lg_cmp_eq _ _).mpr q.1) | exact fun q => h105 ((lg_cmp_eq _ _).mpr q.2))])
            · skip
              refine r_lload_n (pc := 108) B dX8_odds_108 rfl ?_
              refine r_ldc2_w (pc := 109) B q831 dX8_odds_109 ?_
              refine r_ldiv (pc := 112) B (by decide) dX8_odds_112 ?_
              refine r_lstore_3 (pc := 113) B dX8_odds_113 (by decide) rfl ?_
              refine r_lload (pc := 114) B dX8_odds_114 rfl ?_
              refine r_ldc2_w (pc := 116) B q831 dX8_odds_116 ?_
              refine r_ldiv (pc := 119) B (by decide) dX8_odds_119 ?_
              refine r_lstore_5 (pc := 120) B dX8_odds_120 (by decide) rfl ?_
              refine r_goto (pc := 122) B 87 dX8_odds_122 (by decide) ?_
              exact ih _ _ i (by unfold rdB at hrb; rw [if_pos (show evP (P, Q) from ⟨(lg_cmp_eq _ _).mp h94, (lg_cmp_eq _ _).mp h105⟩)] at hrb; exact hrb) (by rw [← hrn, rdN, if_pos (show evP (P, Q) from ⟨(lg_cmp_eq _ _).mp h94, (lg_cmp_eq _ _).mp h105⟩)])
      refine r_iconst (pc := 44) (x := 0) B dX8_odds_44 (by decide) ?_
      refine r_istore_8 (pc := 45) B dX8_odds_45 (by decide) rfl ?_
      have hL47 : ∀ (p i : Nat) (P Q : Int64), i + p = m → P = pwN (nI A).toInt64 i → Q = pwN 16 i → V X G shT σ [some (.ref (ad G 65)), some (.int n), some (.int a), some (.long P), none, some (.long Q), none, some (.int (nI A)), some (.int (nI i))] [] 47 := by
        intro p
        induction p with
        | zero =>
          intro i P Q hi hP hQ
          have ei : i = m := by omega
          subst ei
          refine r_iload (pc := 47) B dX8_odds_47 rfl ?_
          refine r_iload_n (pc := 49) B dX8_odds_49 rfl ?_
          refine r_icmp_ge (pc := 50) B 73 dX8_odds_50 (by decide) (fun h50 => ?_) (fun h50 => ?_)
          · skip
            refine r_lload_n (pc := 73) B dX8_odds_73 rfl ?_
            refine r_lconst (pc := 74) (x := 0) B dX8_odds_74 rfl ?_
            refine r_lcmp (pc := 75) B dX8_odds_75 ?_
            refine r_if_ne (pc := 76) B 83 dX8_odds_76 (by decide) (fun h76 => ?_) (fun h76 => ?_)
            · skip
              refine r_lload (pc := 83) B dX8_odds_83 rfl ?_
              refine r_lstore_5 (pc := 85) B dX8_odds_85 (by decide) rfl ?_
              exact hJ87 64 _ _ i (by first | (rw [show (P, (1 : Int64)) = odP A i by unfold odP; rw [← hP, if_pos ((lg_cmp_eq _ _).mp h76)]]; exact o1) | (rw [show (P, Q) = odP A i by unfold odP; rw [← hP, if_neg (fun q => h76 ((lg_cmp_eq _ _).mpr q)), ← hQ]]; exact o1)) (by first | (rw [show (P, (1 : Int64)) = odP A i by unfold odP; rw [← hP, if_pos ((lg_cmp_eq _ _).mp h76)]]) | (rw [show (P, Q) = odP A i by unfold odP; rw [← hP, if_neg (fun q => h76 ((lg_cmp_eq _ _).mpr q)), ← hQ]]))
            · skip
              refine r_lconst (pc := 79) (x := 1) B dX8_odds_79 rfl ?_
              refine r_goto (pc := 80) B 85 dX8_odds_80 (by decide) ?_
              refine r_lstore_5 (pc := 85) B dX8_odds_85 (by decide) rfl ?_
              exact hJ87 64 _ _ i (by first | (rw [show (P, (1 : Int64)) = odP A i by unfold odP; rw [← hP, if_pos ((lg_cmp_eq _ _).mp h76)]]; exact o1) | (rw [show (P, Q) = odP A i by unfold odP; rw [← hP, if_neg (fun q => h76 ((lg_cmp_eq _ _).mpr q)), ← hQ]]; exact o1)) (by first | (rw [show (P, (1 : Int64)) = odP A i by unfold odP; rw [← hP, if_pos ((lg_cmp_eq _ _).mp h76)]]) | (rw [show (P, Q) = odP A i by unfold odP; rw [← hP, if_neg (fun q => h76 ((lg_cmp_eq _ _).mpr q)), ← hQ]]))
          · skip
            exact absurd (by rw [hn]; exact Int32.le_refl _) h50
        | succ p ih =>
          intro i P Q hi hP hQ
          refine r_iload (pc := 47) B dX8_odds_47 rfl ?_
          refine r_iload_n (pc := 49) B dX8_odds_49 rfl ?_
          refine r_icmp_ge (pc := 50) B 73 dX8_odds_50 (by decide) (fun h50 => ?_) (fun h50 => ?_)
          · skip
            exact absurd ((nI_leI (a := m) (b := i) (by omega) (by omega)).mp (by rw [← hn]; exact h50)) (by omega)
          · skip
            refine r_lload_n (pc := 53) B dX8_odds_53 rfl ?_
            refine r_iload (pc := 54) B dX8_odds_54 rfl ?_
            refine r_i2l (pc := 56) B dX8_odds_56 ?_
            refine r_lmul (pc := 57) B dX8_odds_57 ?_
            refine r_lstore_3 (pc := 58) B dX8_odds_58 (by decide) rfl ?_
            refine r_lload (pc := 59) B dX8_odds_59 rfl ?_
            refine r_ldc2_w (pc := 61) B q1093 dX8_odds_61 ?_
            refine r_lmul (pc := 64) B dX8_odds_64 ?_
            refine r_lstore_5 (pc := 65) B dX8_odds_65 (by decide) rfl ?_
            refine r_iinc_8 (pc := 67) (y := _ + 1) B dX8_odds_67 rfl (by decide) rfl ?_
            refine r_goto (pc := 70) B 47 dX8_odds_70 (by decide) ?_
            rw [nI_1]
            exact ih (i + 1) _ _ (by omega) (by rw [pwN, hP]) (by rw [pwN, hQ])
      exact hL47 m 0 1 1 (by omega) rfl rfl
    · skip
      refine r_aload_n (pc := 22) B dX8_odds_22 rfl ?_
      refine r_ldc (pc := 23) B q836 dX8_odds_23 ?_
      refine r_cVi1 (pc := 25) B KX8_39 (e_finds l G _ (j := 0) rfl (by decide)) rfl rfl (by decide) (Nat.le_of_ble_eq_true rfl) dX8_odds_25 ?_
      refine r_i2l (pc := 28) B dX8_odds_28 ?_
      exact r_lret (pc := 29) B R dX8_odds_29 (Or.inl ⟨by first | exact fun q => bI_0.mp h9 q.1 | exact fun q => bI_0.mp h19 q.2, rfl, rfl⟩)

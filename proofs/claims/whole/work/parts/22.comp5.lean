/-! gusts, odds -/
def zN (z : Int32) : Int32 := z * 1103515245 + 12345
def dw (z : Int32) : Int32 := ((zN z).toUInt32 >>> ((8 : Int32).toUInt32 &&& Int32.toUInt32 31)).toInt32
def rm (x k : Int32) : Int32 := x - x / k * k
theorem dw_nI (z : Int32) : ∃ m, m < 2 ^ 24 ∧ dw z = nI m := by
  have h := pk_ushr (zN z) 8 8 (by decide)
  refine ⟨(zN z).toBitVec.toNat / 2 ^ 8, ?_, ?_⟩
  · have := (zN z).toBitVec.isLt
    omega
  · have hlt : (zN z).toBitVec.toNat / 2 ^ 8 < 2 ^ 32 := by have := (zN z).toBitVec.isLt; omega
    apply Int32.toBitVec_inj.mp
    apply BitVec.eq_of_toNat_eq
    rw [pk_tn hlt]
    exact h
theorem rm_nI {m k : Nat} (hm : m < 2 ^ 24) (h0 : 0 < k) (hk : k < 100) : rm (nI m) (nI k) = nI (m % k) := pk_rem (by omega) h0 (by omega)
def pz (z : Int32) : Nat := (rm (dw z) 16).toNatClampNeg
theorem pz_nI (z : Int32) : pz z < 16 ∧ rm (dw z) 16 = nI (pz z) := by
  obtain ⟨m, hm, e⟩ := dw_nI z
  have h : rm (dw z) 16 = nI (m % 16) := by rw [e]; exact rm_nI (k := 16) hm (by omega) (by omega)
  have hp : pz z = m % 16 := by rw [pz, h]; exact nI_clamp (by omega)
  exact ⟨by rw [hp]; omega, by rw [hp, h]⟩
/-- two draws and what they do, before the TICK -/
def gsW (w : Nat → Int32) : Nat → Int32 := upd (upd w 2 (zN (zN (w 2)))) (21 + pz (w 2)) (rm (dw (zN (w 2))) 60)
def gsV (w : Nat → Int32) (N : Nat) : Nat → Int32 := tickV (gsW w) N
def gsN (w : Nat → Int32) (N : Nat) : Nat → (Nat → Int32)
  | 0 => w
  | n + 1 => gsV (gsN w N n) N
def gcN (w : Nat → Int32) (N : Nat) : Nat → Int32
  | 0 => 0
  | n + 1 => gcN w N n + cntN (gsW (gsN w N n)) N
theorem gsW_lo {w : Nat → Int32} {k : Nat} (h : k < 21) (h2 : k ≠ 2) : gsW w k = w k := by
  rw [gsW, upd, if_neg (by omega), upd, if_neg h2]
theorem gs_0 {w : Nat → Int32} {N : Nat} : ∀ n, gsN w N n 0 = w 0
  | 0 => rfl
  | n + 1 => by rw [gsN, gsV, tickV, upd, if_neg (by decide), goN_lo (by omega), gsW_lo (by omega) (by omega), gs_0 n]
theorem gsW_congr {w x : Nat → Int32} (h : ∀ j, j < 127 → w j = x j) : ∀ j, j < 127 → gsW w j = gsW x j := fun j hj => by
  simp only [gsW, upd]
  rw [h 2 (by omega), h j hj]
theorem gsN_congr {w x : Nat → Int32} {N : Nat} (hN : N ≤ 8) (h : ∀ j, j < 127 → w j = x j) : ∀ n, (∀ j, j < 127 → gsN w N n j = gsN x N n j) ∧ gcN w N n = gcN x N n
  | 0 => ⟨h, rfl⟩
  | n + 1 => by
    obtain ⟨h1, h2⟩ := gsN_congr hN h n
    exact ⟨tickV_congr hN (gsW_congr h1), by rw [gcN, gcN, h2, (goN_congr (gsW_congr h1) N hN).2]⟩
theorem wr_gs {σ ρ : Sg} {w : Nat → Int32} (h : isWr 1 σ ρ w) (hz : ρ 1 4 = w 2) : isWr 1 σ (st2 (st2 (st2 ρ 1 4 (zN (w 2))) 1 4 (zN (zN (w 2)))) 4 (pz (w 2)) (rm (dw (zN (w 2))) 60)) (gsW w) := by
  have h1 := wr_st2 (W := 1) (m := 2) (c := 0) (i := 4) (zN (w 2)) h (by omega) rfl (by omega)
  have h2 := wr_st2 (W := 1) (m := 2) (c := 0) (i := 4) (zN (zN (w 2))) h1 (by omega) rfl (by omega)
  have h3 := wr_st2 (W := 1) (m := 21 + pz (w 2)) (c := 3) (i := pz (w 2)) (rm (dw (zN (w 2))) 60) h2 (by have := (pz_nI (w 2)).1; omega) (lc_s (pz_nI (w 2)).1) (by omega)
  refine h3.cg (fun j hj => ?_)
  simp only [gsW, upd]
  split
  · rfl
  · split
    · rfl
    · rfl

set_option maxHeartbeats 4000000 in
set_option maxRecDepth 20000 in
theorem c_gusts (l : Launch) (G : GG) (σ : Sg) {N : Nat} (hN8 : N ≤ 8) (hN : σ 1 2 = nI N) (x : Int32) : Ct l G mX7_gusts 4 shT [.ref (ad G 0), .int x] σ (fun r τ => ((x < 1 ∨ ¬ x ≤ 20) ∧ fQ σ 0 r τ) ∨ (¬ x < 1 ∧ x ≤ 20 ∧ ¬ σ 2 5 + x ≤ 99999 ∧ fQ σ 4 r τ) ∨ (¬ x < 1 ∧ x ≤ 20 ∧ σ 2 5 + x ≤ 99999 ∧ isWr 1 σ τ (gsN (vw 1 σ) N x.toNatClampNeg) ∧ r = some (.int (gcN (vw 1 σ) N x.toNatClampNeg)))) := by
  refine ct_intro (by decide) (Nat.le_of_ble_eq_true rfl) (fun X B R => ?_)
  show V X G shT σ [some (.ref (ad G 0)), some (.int x), none, none, none, none] [] 0
  refine r_iload_n (pc := 0) B dX7_gusts_0 rfl ?_
  refine r_iconst (pc := 1) (x := 1) B dX7_gusts_1 (by decide) ?_
  refine r_icmp_lt (pc := 2) B 11 dX7_gusts_2 (by decide) (fun h2 => ?_) (fun h2 => ?_)
  · skip
    refine r_aload_n (pc := 11) B dX7_gusts_11 rfl ?_
    refine r_iconst (pc := 12) (x := 0) B dX7_gusts_12 (by decide) ?_
    refine r_cVi1 (pc := 13) B KX7_64 (c_finding l G _ 0 (ix_of 0 rfl)) rfl rfl (by decide) (Nat.le_of_ble_eq_true rfl) dX7_gusts_13 ?_
    exact r_iret (pc := 16) B R dX7_gusts_16 (Or.inl ⟨by first | exact Or.inl h2 | exact Or.inr h8, rfl, rfl⟩)
  · skip
    refine r_iload_n (pc := 5) B dX7_gusts_5 rfl ?_
    refine r_bipush (pc := 6) (x := 20) B dX7_gusts_6 (by decide) ?_
    refine r_icmp_le (pc := 8) B 17 dX7_gusts_8 (by decide) (fun h8 => ?_) (fun h8 => ?_)
    · skip
      refine r_aload_n (pc := 17) B dX7_gusts_17 rfl ?_
      refine r_getr (pc := 18) B FX7_10 rfl rfl dX7_gusts_18 ?_
      refine r_getr (pc := 21) B FX7_68 rfl rfl dX7_gusts_21 ?_
      refine r_geti (pc := 24) B FX7_128 rfl rfl dX7_gusts_24 ?_
      refine r_iload_n (pc := 27) B dX7_gusts_27 rfl ?_
      refine r_iadd (pc := 28) B dX7_gusts_28 ?_
      refine r_ldc (pc := 29) B q347 dX7_gusts_29 ?_
      refine r_icmp_le (pc := 31) B 40 dX7_gusts_31 (by decide) (fun h31 => ?_) (fun h31 => ?_)
      · skip
        obtain ⟨m, hm, hx⟩ : ∃ m, m ≤ 20 ∧ x = nI m := by
          obtain ⟨m, h9, rfl⟩ := nI_of (x := x) (fun q => h2 (by grind))
          exact ⟨m, (nI_leI (b := 20) h9 (by omega)).mp h8, rfl⟩
        refine r_iconst (pc := 40) (x := 0) B dX7_gusts_40 (by decide) ?_
        refine r_istore_2 (pc := 41) B dX7_gusts_41 (by decide) rfl ?_
        refine r_iconst (pc := 42) (x := 0) B dX7_gusts_42 (by decide) ?_
        refine r_istore_3 (pc := 43) B dX7_gusts_43 (by decide) rfl ?_
        have hL44 : ∀ (n i : Nat) (q : Int32) (ρ : Sg) (a b : Option Value), i + n = m → q = gcN (vw 1 σ) N i → isWr 1 σ ρ (gsN (vw 1 σ) N i) → nl1 (some a) = true → V X G shT ρ [some (.ref (ad G 0)), some (.int x), some (.int q), some (.int (nI i)), a, b] [] 44 := by
          intro n
          induction n with
          | zero =>
            intro i q ρ a b hi hq hw ha
            have ei : i = m := by omega
            subst ei
            refine r_iload_n (pc := 44) B dX7_gusts_44 rfl ?_
            refine r_iload_n (pc := 45) B dX7_gusts_45 rfl ?_
            refine r_icmp_ge (pc := 46) B 112 dX7_gusts_46 (by decide) (fun h46 => ?_) (fun h46 => ?_)
            · skip
              refine r_iload_n (pc := 112) B dX7_gusts_112 rfl ?_
              exact r_iret (pc := 113) B R dX7_gusts_113 (Or.inr (Or.inr ⟨h2, h8, h31, by rw [hx, nI_clamp (by omega)]; exact hw, by rw [hx, nI_clamp (by omega), hq]⟩))
            · skip
              exact absurd (by rw [hx]; exact (nI_leI (by omega) (by omega)).mpr (Nat.le_refl _)) h46
          | succ n ih =>
            intro i q ρ a b hi hq hw ha
            have hz : ρ 1 2 = nI N := by rw [← vw_0 1 ρ, hw.1 0 (by omega), gs_0, vw_0, hN]
            have h4 : ρ 1 4 = gsN (vw 1 σ) N i 2 := by rw [← vw_2 1 ρ, hw.1 2 (by omega)]
            have hg := wr_gs hw h4
            obtain ⟨hp1, hp2⟩ := pz_nI (gsN (vw 1 σ) N i 2)
            refine r_iload_n (pc := 44) B dX7_gusts_44 rfl ?_
            refine r_iload_n (pc := 45) B dX7_gusts_45 rfl ?_
            refine r_icmp_ge (pc := 46) B 112 dX7_gusts_46 (by decide) (fun h46 => ?_) (fun h46 => ?_)
            · skip
              exact absurd ((nI_leI (a := m) (b := i) (by omega) (by omega)).mp (by rw [← hx]; exact h46)) (by omega)
            · skip
              refine r_aload_n (pc := 49) B dX7_gusts_49 rfl ?_
              refine r_getr (pc := 50) B FX7_10 rfl rfl dX7_gusts_50 ?_
              refine r_cVi0 (pc := 53) B KX7_192 (c_draw l G _ W1) rfl rfl (by decide) (Nat.le_of_ble_eq_true rfl) dX7_gusts_53 ?_
              rw [h4]
              refine r_bipush (pc := 56) (x := 16) B dX7_gusts_56 (by decide) ?_
              refine r_irem (pc := 58) B (by decide) dX7_gusts_58 ?_
              show V X G shT _ _ (.int (rm (dw (gsN (vw 1 σ) N i 2)) 16) :: []) _
              rw [hp2]
              refine r_istore_4 (pc := 59) B dX7_gusts_59 (by decide) rfl ?_
              refine r_aload_n (pc := 61) B dX7_gusts_61 rfl ?_
              refine r_getr (pc := 62) B FX7_10 rfl rfl dX7_gusts_62 ?_
              refine r_cVi0 (pc := 65) B KX7_192 (c_draw l G _ W1) rfl rfl (by decide) (Nat.le_of_ble_eq_true rfl) dX7_gusts_65 ?_
              rw [st2_at]
              refine r_bipush (pc := 68) (x := 60) B dX7_gusts_68 (by decide) ?_
              refine r_irem (pc := 70) B (by decide) dX7_gusts_70 ?_
              show V X G shT (st2 (st2 ρ 1 4 (zN (gsN (vw 1 σ) N i 2))) 1 4 (zN (zN (gsN (vw 1 σ) N i 2)))) _ (.int (rm (dw (zN (gsN (vw 1 σ) N i 2))) 60) :: []) _
              refine r_istore_5 (pc := 71) B dX7_gusts_71 (by decide) rfl ?_
              refine r_iload (pc := 73) B dX7_gusts_73 rfl ?_
              refine r_cSi1 (pc := 75) B KX7_60 (c_isStep l G _ _ _) (by decide) (Nat.le_of_ble_eq_true rfl) dX7_gusts_75 ?_
              refine r_if_eq (pc := 78) B 96 dX7_gusts_78 (by decide) (fun h78 => ?_) (fun h78 => ?_)
              · skip
                exact absurd (nI_stepP hp1) (bI_0.mp h78)
              · skip
                refine r_aload_n (pc := 81) B dX7_gusts_81 rfl ?_
                refine r_getr (pc := 82) B FX7_10 rfl rfl dX7_gusts_82 ?_
                refine r_getr (pc := 85) B FX7_68 rfl rfl dX7_gusts_85 ?_
                refine r_getr (pc := 88) B FX7_77 rfl rfl dX7_gusts_88 ?_
                refine r_iload (pc := 91) B dX7_gusts_91 rfl ?_
                refine r_iload (pc := 93) B dX7_gusts_93 rfl ?_
                refine r_iast (pc := 95) B rfl (ix_nI hp1 (by decide)) dX7_gusts_95 ?_
                have hz2 : st2 (st2 (st2 ρ 1 4 (zN (gsN (vw 1 σ) N i 2))) 1 4 (zN (zN (gsN (vw 1 σ) N i 2)))) 4 (pz (gsN (vw 1 σ) N i 2)) (rm (dw (zN (gsN (vw 1 σ) N i 2))) 60) 1 2 = nI N := by
                  have hg0 := hg.1 0 (by omega)
                  rw [vw_0, gsW_lo (by omega) (by omega), gs_0, vw_0, hN] at hg0
                  exact hg0
                refine r_iload_n (pc := 96) B dX7_gusts_96 rfl ?_
                refine r_aload_n (pc := 97) B dX7_gusts_97 rfl ?_
                refine r_getr (pc := 98) B FX7_10 rfl rfl dX7_gusts_98 ?_
                refine r_cVpi0 (pc := 101) B KX7_149 (c_passTick l G _ W1 hN8 hz2) rfl rfl (by decide) (Nat.le_of_ble_eq_true rfl) dX7_gusts_101 (fun ρ2 hw2 => ?_)
                refine r_iadd (pc := 104) B dX7_gusts_104 ?_
                refine r_istore_2 (pc := 105) B dX7_gusts_105 (by decide) rfl ?_
                refine r_iinc_3 (pc := 106) (y := _ + 1) B dX7_gusts_106 rfl (by decide) rfl ?_
                refine r_goto (pc := 109) B 44 dX7_gusts_109 (by decide) ?_
                rw [nI_1]
                refine ih (i + 1) _ ρ2 _ _ (by omega) ?_ (hg.tr (hw2.cg (tickV_congr hN8 hg.1))) rfl
                rw [gcN, hq, (goN_congr hg.1 N hN8).2]
        exact hL44 m 0 0 σ _ _ (by omega) rfl (isWr.rf 1 σ) rfl
      · skip
        refine r_aload_n (pc := 34) B dX7_gusts_34 rfl ?_
        refine r_iconst (pc := 35) (x := 4) B dX7_gusts_35 (by decide) ?_
        refine r_cVi1 (pc := 36) B KX7_64 (c_finding l G _ 4 (ix_of 4 rfl)) rfl rfl (by decide) (Nat.le_of_ble_eq_true rfl) dX7_gusts_36 ?_
        exact r_iret (pc := 39) B R dX7_gusts_39 (Or.inr (Or.inl ⟨h2, h8, h31, rfl, rfl⟩))
    · skip
      refine r_aload_n (pc := 11) B dX7_gusts_11 rfl ?_
      refine r_iconst (pc := 12) (x := 0) B dX7_gusts_12 (by decide) ?_
      refine r_cVi1 (pc := 13) B KX7_64 (c_finding l G _ 0 (ix_of 0 rfl)) rfl rfl (by decide) (Nat.le_of_ble_eq_true rfl) dX7_gusts_13 ?_
      exact r_iret (pc := 16) B R dX7_gusts_16 (Or.inl ⟨by first | exact Or.inl h2 | exact Or.inr h8, rfl, rfl⟩)
def hvN : Nat → Int32 × Int32 → Int32 × Int32
  | 0, p => p
  | n + 1, p => if p.1 - p.1 / 2 * 2 = 0 then hvN n (p.1 / 2, p.2 / 2) else p
def pwN (f : Int64) : Nat → Int64
  | 0 => 1
  | n + 1 => pwN f n * f
def odC (a : Int32) (k m : Nat) : Int64 := pwN ((if k = 0 then (hvN 4 (a, 16)).1 else (hvN 4 (a, 16)).2).toInt64) m

set_option maxHeartbeats 4000000 in
set_option maxRecDepth 20000 in
theorem c_odds (l : Launch) (G : GG) (σ : Sg) (n a : Int32) : Ct l G mX7_odds 1 shT [.ref (ad G 0), .int n, .int a] σ (fun r τ => (¬ (withinP n 15 ∧ withinP a 1) ∧ r = some (.long (fA 0).toInt64) ∧ τ = fnd σ 0) ∨ ∃ m k, m ≤ 15 ∧ n = nI m ∧ k < 2 ∧ a = nI k ∧ τ = σ ∧ r = some (.long (odC (bcF (orS (fun n => σ 5 n = 1) (fun _ => inferInstance) 16)) k m))) := by
  refine ct_intro (by decide) (Nat.le_of_ble_eq_true rfl) (fun X B R => ?_)
  show V X G shT σ [some (.ref (ad G 0)), some (.int n), some (.int a), none, none, none, none, none, none, none] [] 0
  refine r_iload_n (pc := 0) B dX7_odds_0 rfl ?_
  refine r_bipush (pc := 1) (x := 15) B dX7_odds_1 (by decide) ?_
  refine r_cSi2 (pc := 3) B KX7_83 (c_isWithin l G _ _ _ _) (by decide) (Nat.le_of_ble_eq_true rfl) dX7_odds_3 ?_
  refine r_if_eq (pc := 6) B 17 dX7_odds_6 (by decide) (fun h6 => ?_) (fun h6 => ?_)
  · skip
    refine r_aload_n (pc := 17) B dX7_odds_17 rfl ?_
    refine r_iconst (pc := 18) (x := 0) B dX7_odds_18 (by decide) ?_
    refine r_cVi1 (pc := 19) B KX7_64 (c_finding l G _ 0 (ix_of 0 rfl)) rfl rfl (by decide) (Nat.le_of_ble_eq_true rfl) dX7_odds_19 ?_
    refine r_i2l (pc := 22) B dX7_odds_22 ?_
    exact r_lret (pc := 23) B R dX7_odds_23 (Or.inl ⟨by first | exact fun q => bI_0.mp h6 q.1 | exact fun q => bI_0.mp h14 q.2, rfl, rfl⟩)
  · skip
    refine r_iload_n (pc := 9) B dX7_odds_9 rfl ?_
    refine r_iconst (pc := 10) (x := 1) B dX7_odds_10 (by decide) ?_
    refine r_cSi2 (pc := 11) B KX7_83 (c_isWithin l G _ _ _ _) (by decide) (Nat.le_of_ble_eq_true rfl) dX7_odds_11 ?_
    refine r_if_ne (pc := 14) B 24 dX7_odds_14 (by decide) (fun h14 => ?_) (fun h14 => ?_)
    · skip
      obtain ⟨m, hm1, hm2⟩ := wi_nI (g := 15) (by omega) (bI_n.mp h6)
      obtain ⟨k, hk1, hk2⟩ := wi_nI (g := 1) (by omega) (bI_n.mp h14)
      refine r_aload_n (pc := 24) B dX7_odds_24 rfl ?_
      refine r_getr (pc := 25) B FX7_10 rfl rfl dX7_odds_25 ?_
      refine r_getr (pc := 28) B FX7_68 rfl rfl dX7_odds_28 ?_
      refine r_cVi0 (pc := 31) B KX7_155 (c_roofs l G _ S2) rfl rfl (by decide) (Nat.le_of_ble_eq_true rfl) dX7_odds_31 ?_
      refine r_cSi1 (pc := 34) B KX7_195 (c_bitCount l G _ _ _) (by decide) (Nat.le_of_ble_eq_true rfl) dX7_odds_34 ?_
      obtain ⟨A, hA⟩ : ∃ A, A = bcF (orS (fun n => σ 5 n = 1) (fun _ => inferInstance) 16) := ⟨_, rfl⟩
      rw [show bcF (orS (fun n => σ (2 + 3) n = 1) (fun _ => inferInstance) 16) = A from hA.symm]
      have h93 : ∀ (f : Int64) (p q : Int32) (v8 : Option Value), (∀ j, pwN f j = pwN f j) → odC A k m = pwN f m → ∀ (j i : Nat) (t9 : Option Value), i + j = m → V X G shT σ [some (.ref (ad G 0)), some (.int n), some (.int a), some (.int p), some (.int q), some (.long f), none, some (.long (pwN f i)), none, some (.int (nI i))] [] 93 := by
        intro f p q v8 _ hf j
        induction j with
        | zero =>
          intro i t9 hi
          have ei : i = m := by omega
          subst ei
          refine r_iload (pc := 93) B dX7_odds_93 rfl ?_
          refine r_iload_n (pc := 95) B dX7_odds_95 rfl ?_
          refine r_icmp_ge (pc := 96) B 112 dX7_odds_96 (by decide) (fun h96 => ?_) (fun h96 => ?_)
          · skip
            refine r_lload (pc := 112) B dX7_odds_112 rfl ?_
            exact r_lret (pc := 114) B R dX7_odds_114 (Or.inr ⟨i, k, hm1, hm2, by omega, hk2, rfl, by rw [← hA, hf]⟩)
          · skip
            exact absurd (by rw [hm2]; exact (nI_leI (by omega) (by omega)).mpr (Nat.le_refl _)) h96
        | succ j ih =>
          intro i t9 hi
          refine r_iload (pc := 93) B dX7_odds_93 rfl ?_
          refine r_iload_n (pc := 95) B dX7_odds_95 rfl ?_
          refine r_icmp_ge (pc := 96) B 112 dX7_odds_96 (by decide) (fun h96 => ?_) (fun h96 => ?_)
          · skip
            exact absurd ((nI_leI (a := m) (b := i) (by omega) (by omega)).mp (by rw [← hm2]; exact h96)) (by omega)
          · skip
            refine r_lload (pc := 99) B dX7_odds_99 rfl ?_
            refine r_lload (pc := 101) B dX7_odds_101 rfl ?_
            refine r_lmul (pc := 103) B dX7_odds_103 ?_
            refine r_lstore_7 (pc := 104) B dX7_odds_104 (by decide) rfl ?_
            refine r_iinc_9 (pc := 106) (y := _ + 1) B dX7_odds_106 rfl (by decide) rfl ?_
            refine r_goto (pc := 109) B 93 dX7_odds_109 (by decide) ?_
            rw [nI_1]
            exact ih (i + 1) none (by omega)
      have h73 : ∀ (p q : Int32) (t5 : Option Value), (hvN 4 (A, 16)) = (p, q) → nl1 (some t5) = true → V X G shT σ [some (.ref (ad G 0)), some (.int n), some (.int a), some (.int p), some (.int q), t5, none, none, none, none] [] 73 := by
        intro p q t5 hv h5
        refine r_iload_n (pc := 73) B dX7_odds_73 rfl ?_
        refine r_if_ne (pc := 74) B 82 dX7_odds_74 (by decide) (fun h74 => ?_) (fun h74 => ?_)
        · skip
          have hk0 : ¬ k = 0 := fun q => h74 (by rw [hk2, q]; rfl)
          refine r_iload (pc := 82) B dX7_odds_82 rfl ?_
          refine r_i2l (pc := 84) B dX7_odds_84 ?_
          refine r_lstore_5 (pc := 85) B dX7_odds_85 (by decide) rfl ?_
          refine r_lconst (pc := 87) (x := 1) B dX7_odds_87 rfl ?_
          refine r_lstore_7 (pc := 88) B dX7_odds_88 (by decide) rfl ?_
          refine r_iconst (pc := 90) (x := 0) B dX7_odds_90 (by decide) ?_
          refine r_istore_9 (pc := 91) B dX7_odds_91 (by decide) rfl ?_
          first | exact h93 _ _ _ none (fun _ => rfl) (by rw [odC, hv, if_pos hk0]) m 0 none (by omega) | exact h93 _ _ _ none (fun _ => rfl) (by rw [odC, hv, if_neg hk0]) m 0 none (by omega)
        · skip
          have hk0 : k = 0 := by
            have := nI_is (j := k) (c := 0) (hk2 ▸ h74) rfl (by omega) (by decide)
            exact this
          refine r_iload_n (pc := 77) B dX7_odds_77 rfl ?_
          refine r_i2l (pc := 78) B dX7_odds_78 ?_
          refine r_goto (pc := 79) B 85 dX7_odds_79 (by decide) ?_
          refine r_lstore_5 (pc := 85) B dX7_odds_85 (by decide) rfl ?_
          refine r_lconst (pc := 87) (x := 1) B dX7_odds_87 rfl ?_
          refine r_lstore_7 (pc := 88) B dX7_odds_88 (by decide) rfl ?_
          refine r_iconst (pc := 90) (x := 0) B dX7_odds_90 (by decide) ?_
          refine r_istore_9 (pc := 91) B dX7_odds_91 (by decide) rfl ?_
          first | exact h93 _ _ _ none (fun _ => rfl) (by rw [odC, hv, if_pos hk0]) m 0 none (by omega) | exact h93 _ _ _ none (fun _ => rfl) (by rw [odC, hv, if_neg hk0]) m 0 none (by omega)
      have h45 : ∀ (j i : Nat) (p q : Int32), i + j = 4 → hvN 4 (A, 16) = hvN j (p, q) → V X G shT σ [some (.ref (ad G 0)), some (.int n), some (.int a), some (.int p), some (.int q), some (.int (nI i)), none, none, none, none] [] 45 := by
        intro j
        induction j with
        | zero =>
          intro i p q hi hv
          have ei : i = 4 := by omega
          subst ei
          refine r_iload (pc := 45) B dX7_odds_45 rfl ?_
          refine r_iconst (pc := 47) (x := 4) B dX7_odds_47 (by decide) ?_
          refine r_icmp_ge (pc := 48) B 73 dX7_odds_48 (by decide) (fun h48 => ?_) (fun h48 => ?_)
          · skip
            exact h73 p q _ hv rfl
          · skip
            exact absurd h48 (by decide)
        | succ j ih =>
          intro i p q hi hv
          refine r_iload (pc := 45) B dX7_odds_45 rfl ?_
          refine r_iconst (pc := 47) (x := 4) B dX7_odds_47 (by decide) ?_
          refine r_icmp_ge (pc := 48) B 73 dX7_odds_48 (by decide) (fun h48 => ?_) (fun h48 => ?_)
          · skip
            exact absurd ((nI_leI (a := 4) (b := i) (by omega) (by omega)).mp h48) (by omega)
          · skip
            refine r_iload_n (pc := 51) B dX7_odds_51 rfl ?_
            refine r_iconst (pc := 52) (x := 2) B dX7_odds_52 (by decide) ?_
            refine r_irem (pc := 53) B (by decide) dX7_odds_53 ?_
            refine r_if_ne (pc := 54) B 73 dX7_odds_54 (by decide) (fun h54 => ?_) (fun h54 => ?_)
            · skip
              refine h73 p q _ ?_ rfl
              rw [hv, hvN, if_neg h54]
            · skip
              refine r_iload_n (pc := 57) B dX7_odds_57 rfl ?_
              refine r_iconst (pc := 58) (x := 2) B dX7_odds_58 (by decide) ?_
              refine r_idiv (pc := 59) B (by decide) dX7_odds_59 ?_
              refine r_istore_3 (pc := 60) B dX7_odds_60 (by decide) rfl ?_
              refine r_iload (pc := 61) B dX7_odds_61 rfl ?_
              refine r_iconst (pc := 63) (x := 2) B dX7_odds_63 (by decide) ?_
              refine r_idiv (pc := 64) B (by decide) dX7_odds_64 ?_
              refine r_istore_4 (pc := 65) B dX7_odds_65 (by decide) rfl ?_
              refine r_iinc_5 (pc := 67) (y := _ + 1) B dX7_odds_67 rfl (by decide) rfl ?_
              refine r_goto (pc := 70) B 45 dX7_odds_70 (by decide) ?_
              rw [nI_1]
              exact ih (i + 1) _ _ (by omega) (by rw [hv, hvN, if_pos h54])
      refine r_istore_3 (pc := 37) B dX7_odds_37 (by decide) rfl ?_
      refine r_bipush (pc := 38) (x := 16) B dX7_odds_38 (by decide) ?_
      refine r_istore_4 (pc := 40) B dX7_odds_40 (by decide) rfl ?_
      refine r_iconst (pc := 42) (x := 0) B dX7_odds_42 (by decide) ?_
      refine r_istore_5 (pc := 43) B dX7_odds_43 (by decide) rfl ?_
      exact h45 4 0 A 16 (by omega) rfl
    · skip
      refine r_aload_n (pc := 17) B dX7_odds_17 rfl ?_
      refine r_iconst (pc := 18) (x := 0) B dX7_odds_18 (by decide) ?_
      refine r_cVi1 (pc := 19) B KX7_64 (c_finding l G _ 0 (ix_of 0 rfl)) rfl rfl (by decide) (Nat.le_of_ble_eq_true rfl) dX7_odds_19 ?_
      refine r_i2l (pc := 22) B dX7_odds_22 ?_
      exact r_lret (pc := 23) B R dX7_odds_23 (Or.inl ⟨by first | exact fun q => bI_0.mp h6 q.1 | exact fun q => bI_0.mp h14 q.2, rfl, rfl⟩)

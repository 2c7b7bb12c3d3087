/-! the reference: now, gusts, the tape, spots, sheets, images -/
def nwR (w : Nat → Int32) (N k : Nat) : Int32 := if k = 0 then w 1 else if k = 1 then sumS (fun u => w (53 + 8 * u + 7)) N else if k = 2 then orS (fun u => w (53 + 8 * u + 1) = 16) (fun _ => inferInstance) N else if k = 3 then orS (fun u => w (53 + 8 * u + 5) = 1) (fun _ => inferInstance) N else if k = 4 then sumS (fun u => w (53 + 8 * u + 4)) N else if k = 5 then orS (fun k => w (37 + k) = 1) (fun _ => inferInstance) 16 else sumS (fun u => w (53 + 8 * u + 6)) N
theorem wi_cs6 {a : Int32} (h : withinP a 6) : a = 0 ∨ a = 1 ∨ a = 2 ∨ a = 3 ∨ a = 4 ∨ a = 5 ∨ a = 6 := by
  obtain ⟨k, hk, rfl⟩ := wi_nI (g := 6) (by decide) h
  rcases (show k = 0 ∨ k = 1 ∨ k = 2 ∨ k = 3 ∨ k = 4 ∨ k = 5 ∨ k = 6 by omega) with rfl | rfl | rfl | rfl | rfl | rfl | rfl <;> decide

set_option maxHeartbeats 4000000 in
set_option maxRecDepth 20000 in
theorem e_now (l : Launch) (G : GG) (σ : Sg) {N : Nat} (hN8 : N ≤ 8) (hN : σ 66 0 = nI N) (hW : WR (σ 66)) (a : Int32) : Ct l G mX8_now 3 shT [.ref (ad G 65), .int a] σ (fun r τ => (¬ withinP a 6 ∧ gQ σ 0 r τ) ∨ ∃ k, k < 7 ∧ a = nI k ∧ τ = σ ∧ r = some (.int (nwR (σ 66) N k))) := by
  refine ct_intro (by decide) (Nat.le_of_ble_eq_true rfl) (fun X B R => ?_)
  show V X G shT σ [some (.ref (ad G 65)), some (.int a)] [] 0
  refine r_iload_n (pc := 0) B dX8_now_0 rfl ?_
  refine r_tsC (pc := 1) B 0 44 dX8_now_1 (by decide) (by decide) rfl (by decide) (fun h1_0 => ?_) (fun h1_0 => ?_)
  · skip
    refine r_aload_n (pc := 44) B dX8_now_44 rfl ?_
    refine r_getr (pc := 45) B FX8_7 rfl rfl dX8_now_45 ?_
    refine r_iconst (pc := 48) (x := 1) B dX8_now_48 (by decide) ?_
    refine r_iald (pc := 49) B rfl (ix_of 1 rfl) dX8_now_49 ?_
    exact r_iret (pc := 50) B R dX8_now_50 (Or.inr ⟨0, by omega, h1_0, rfl, rfl⟩)
  refine r_tsC (pc := 1) B 1 51 dX8_now_1 (by decide) (by decide) rfl (by decide) (fun h1_1 => ?_) (fun h1_1 => ?_)
  · skip
    refine r_aload_n (pc := 51) B dX8_now_51 rfl ?_
    refine r_bipush (pc := 52) (x := 7) B dX8_now_52 (by decide) ?_
    refine r_cVi1 (pc := 54) B KX8_129 (e_sumOf l G _ hN8 hN (f := 7) rfl (by decide)) rfl rfl (by decide) (Nat.le_of_ble_eq_true rfl) dX8_now_54 ?_
    exact r_iret (pc := 57) B R dX8_now_57 (Or.inr ⟨1, by omega, h1_1, rfl, rfl⟩)
  refine r_tsC (pc := 1) B 2 58 dX8_now_1 (by decide) (by decide) rfl (by decide) (fun h1_2 => ?_) (fun h1_2 => ?_)
  · skip
    refine r_aload_n (pc := 58) B dX8_now_58 rfl ?_
    refine r_cVi0 (pc := 59) B KX8_126 (e_homes l G _ hN8 hN) rfl rfl (by decide) (Nat.le_of_ble_eq_true rfl) dX8_now_59 ?_
    exact r_iret (pc := 62) B R dX8_now_62 (Or.inr ⟨2, by omega, h1_2, rfl, rfl⟩)
  refine r_tsC (pc := 1) B 3 63 dX8_now_1 (by decide) (by decide) rfl (by decide) (fun h1_3 => ?_) (fun h1_3 => ?_)
  · skip
    refine r_aload_n (pc := 63) B dX8_now_63 rfl ?_
    refine r_cVi0 (pc := 64) B KX8_132 (e_outs l G _ hN8 hN hW) rfl rfl (by decide) (Nat.le_of_ble_eq_true rfl) dX8_now_64 ?_
    exact r_iret (pc := 67) B R dX8_now_67 (Or.inr ⟨3, by omega, h1_3, rfl, rfl⟩)
  refine r_tsC (pc := 1) B 4 68 dX8_now_1 (by decide) (by decide) rfl (by decide) (fun h1_4 => ?_) (fun h1_4 => ?_)
  · skip
    refine r_aload_n (pc := 68) B dX8_now_68 rfl ?_
    refine r_iconst (pc := 69) (x := 4) B dX8_now_69 (by decide) ?_
    refine r_cVi1 (pc := 70) B KX8_129 (e_sumOf l G _ hN8 hN (f := 4) rfl (by decide)) rfl rfl (by decide) (Nat.le_of_ble_eq_true rfl) dX8_now_70 ?_
    exact r_iret (pc := 73) B R dX8_now_73 (Or.inr ⟨4, by omega, h1_4, rfl, rfl⟩)
  refine r_tsC (pc := 1) B 5 74 dX8_now_1 (by decide) (by decide) rfl (by decide) (fun h1_5 => ?_) (fun h1_5 => ?_)
  · skip
    refine r_aload_n (pc := 74) B dX8_now_74 rfl ?_
    refine r_cVi0 (pc := 75) B KX8_135 (e_roofs l G _ hW) rfl rfl (by decide) (Nat.le_of_ble_eq_true rfl) dX8_now_75 ?_
    exact r_iret (pc := 78) B R dX8_now_78 (Or.inr ⟨5, by omega, h1_5, rfl, rfl⟩)
  refine r_tsC (pc := 1) B 6 79 dX8_now_1 (by decide) (by decide) rfl (by decide) (fun h1_6 => ?_) (fun h1_6 => ?_)
  · skip
    refine r_aload_n (pc := 79) B dX8_now_79 rfl ?_
    refine r_bipush (pc := 80) (x := 6) B dX8_now_80 (by decide) ?_
    refine r_cVi1 (pc := 82) B KX8_129 (e_sumOf l G _ hN8 hN (f := 6) rfl (by decide)) rfl rfl (by decide) (Nat.le_of_ble_eq_true rfl) dX8_now_82 ?_
    exact r_iret (pc := 85) B R dX8_now_85 (Or.inr ⟨6, by omega, h1_6, rfl, rfl⟩)
  refine r_tsD (pc := 1) B 86 dX8_now_1 (by have e0 := ts_in (c := 0) h1_0 rfl; have e1 := ts_in (c := 1) h1_1 rfl; have e2 := ts_in (c := 2) h1_2 rfl; have e3 := ts_in (c := 3) h1_3 rfl; have e4 := ts_in (c := 4) h1_4 rfl; have e5 := ts_in (c := 5) h1_5 rfl; have e6 := ts_in (c := 6) h1_6 rfl; omega) (by decide) ?_
  refine r_aload_n (pc := 86) B dX8_now_86 rfl ?_
  refine r_ldc (pc := 87) B q836 dX8_now_87 ?_
  refine r_cVi1 (pc := 89) B KX8_39 (e_finds l G _ (j := 0) rfl (by decide)) rfl rfl (by decide) (Nat.le_of_ble_eq_true rfl) dX8_now_89 ?_
  exact r_iret (pc := 92) B R dX8_now_92 (Or.inl ⟨fun q => by rcases wi_cs6 q with q | q | q | q | q | q | q <;> first | exact h1_0 q | exact h1_1 q | exact h1_2 q | exact h1_3 q | exact h1_4 q | exact h1_5 q | exact h1_6 q, rfl, rfl⟩)
set_option maxHeartbeats 4000000 in
set_option maxRecDepth 20000 in
theorem e_draw (l : Launch) (G : GG) (σ : Sg) : CtI l G mX8_draw 0 shT [.ref (ad G 65)] σ (dw (σ 66 2)) (sR σ (upd (σ 66) 2 (zN (σ 66 2)))) := by
  refine ct_intro (by decide) (Nat.le_of_ble_eq_true rfl) (fun X B R => ?_)
  show V X G shT σ [some (.ref (ad G 65))] [] 0
  refine r_aload_n (pc := 0) B dX8_draw_0 rfl ?_
  refine r_getr (pc := 1) B FX8_7 rfl rfl dX8_draw_1 ?_
  refine r_iconst (pc := 4) (x := 2) B dX8_draw_4 (by decide) ?_
  refine r_aload_n (pc := 5) B dX8_draw_5 rfl ?_
  refine r_getr (pc := 6) B FX8_7 rfl rfl dX8_draw_6 ?_
  refine r_iconst (pc := 9) (x := 2) B dX8_draw_9 (by decide) ?_
  refine r_iald (pc := 10) B rfl (ix_of 2 rfl) dX8_draw_10 ?_
  refine r_ldc (pc := 11) B q1084 dX8_draw_11 ?_
  refine r_imul (pc := 13) B dX8_draw_13 ?_
  refine r_sipush (pc := 14) (x := 12345) B dX8_draw_14 (by decide) ?_
  refine r_iadd (pc := 17) B dX8_draw_17 ?_
  refine r_iast (pc := 18) B rfl (ix_of 2 rfl) dX8_draw_18 ?_
  rw [st2_66]
  refine r_aload_n (pc := 19) B dX8_draw_19 rfl ?_
  refine r_getr (pc := 20) B FX8_7 rfl rfl dX8_draw_20 ?_
  refine r_iconst (pc := 23) (x := 2) B dX8_draw_23 (by decide) ?_
  refine r_iald (pc := 24) B rfl (ix_of 2 rfl) dX8_draw_24 ?_
  rw [show sR σ (upd (σ 66) 2 (σ 66 2 * 1103515245 + 12345)) 66 2 = zN (σ 66 2) by rw [sR_66, upd, if_pos rfl]; rfl]
  refine r_bipush (pc := 25) (x := 8) B dX8_draw_25 (by decide) ?_
  refine r_iushr (pc := 27) B dX8_draw_27 ?_
  exact r_iret (pc := 28) B R dX8_draw_28 ⟨rfl, rfl⟩
theorem rm60 (z : Int32) : withinP (rm (dw z) 60) 99 := by
  obtain ⟨m, hm, e⟩ := dw_nI z
  rw [e, show rm (nI m) 60 = nI (m % 60) from rm_nI (k := 60) hm (by omega) (by omega)]
  exact nI_wi (g := 99) (by decide) (by omega)
theorem WR_s {w : Nat → Int32} (hW : WR w) {n : Nat} (hn : n < 16) {v : Int32} (hv : withinP v 99) : WR (upd w (21 + n) v) := by
  refine ⟨?_, ?_, fun k' hk' => ⟨?_, ?_, ?_⟩, fun u' i' hu' hi' => ?_⟩
  · rw [upd, if_neg (by omega)]; exact hW.1
  · rw [upd, if_neg (by omega)]; exact hW.2.1
  · rw [upd, if_neg (by omega)]; exact (hW.2.2.1 k' hk').1
  · unfold upd
    split
    · exact hv
    · exact (hW.2.2.1 k' hk').2.1
  · rw [upd, if_neg (by omega)]; exact (hW.2.2.1 k' hk').2.2
  · rw [upd, if_neg (by omega)]; exact hW.2.2.2 u' i' hu' hi'
theorem gsW_WR {w : Nat → Int32} (hW : WR w) : WR (gsW w) := WR_s (WR_t hW (by omega) _) (pz_nI _).1 (rm60 _)
theorem gs_WR {w : Nat → Int32} (hW : WR w) {N : Nat} (hN : N ≤ 8) : ∀ n, WR (gsN w N n)
  | 0 => hW
  | n + 1 => tickV_WR (gsW_WR (gs_WR hW hN n)) hN
theorem gs_1 {w : Nat → Int32} {N t : Nat} (h1 : w 1 = nI t) : ∀ n, t + n ≤ 99999 → gsN w N n 1 = nI (t + n)
  | 0, _ => h1
  | n + 1, h => tickV_1 (w := gsW (gsN w N n)) (t := t + n) (by rw [gsW_lo (by omega) (by omega)]; exact gs_1 h1 n (by omega)) (by omega)

set_option maxHeartbeats 4000000 in
set_option maxRecDepth 20000 in
theorem e_gusts (l : Launch) (G : GG) (σ : Sg) {N : Nat} (hN8 : N ≤ 8) (hN : σ 66 0 = nI N) (hW : WR (σ 66)) {t : Nat} (ht : t ≤ 90000) (ht1 : σ 66 1 = nI t) (x : Int32) : Ct l G mX8_gusts 6 shT [.ref (ad G 65), .int x] σ (fun r τ => ((x < 1 ∨ ¬ x ≤ 20) ∧ gQ σ 0 r τ) ∨ (¬ x < 1 ∧ x ≤ 20 ∧ ¬ σ 66 1 + x ≤ 99999 ∧ gQ σ 4 r τ) ∨ ∃ m, m ≤ 20 ∧ x = nI m ∧ ¬ x < 1 ∧ x ≤ 20 ∧ σ 66 1 + x ≤ 99999 ∧ τ = sR σ (gsN (σ 66) N m) ∧ r = some (.int (gcN (σ 66) N m))) := by
  refine ct_intro (by decide) (Nat.le_of_ble_eq_true rfl) (fun X B R => ?_)
  show V X G shT σ [some (.ref (ad G 65)), some (.int x), none, none, none] [] 0
  refine r_iload_n (pc := 0) B dX8_gusts_0 rfl ?_
  refine r_i2l (pc := 1) B dX8_gusts_1 ?_
  refine r_lconst (pc := 2) (x := 1) B dX8_gusts_2 rfl ?_
  refine r_ldc2_w (pc := 3) B q1079 dX8_gusts_3 ?_
  refine r_cSi3 (pc := 6) B KX8_49 (e_isIn l G _ _ (v := x) (a := 1) (b := 20) rfl rfl rfl) (by decide) (Nat.le_of_ble_eq_true rfl) dX8_gusts_6 ?_
  refine r_if_ne (pc := 9) B 19 dX8_gusts_9 (by decide) (fun h9 => ?_) (fun h9 => ?_)
  · skip
    have hx := bI_n.mp h9
    obtain ⟨m, hm, hm2⟩ := wi_nI (x := x) (g := 20) (by decide) ⟨fun z => hx.1 (Int32.lt_trans z (by decide)), hx.2⟩
    refine r_aload_n (pc := 19) B dX8_gusts_19 rfl ?_
    refine r_getr (pc := 20) B FX8_7 rfl rfl dX8_gusts_20 ?_
    refine r_iconst (pc := 23) (x := 1) B dX8_gusts_23 (by decide) ?_
    refine r_iald (pc := 24) B rfl (ix_of 1 rfl) dX8_gusts_24 ?_
    refine r_iload_n (pc := 25) B dX8_gusts_25 rfl ?_
    refine r_iadd (pc := 26) B dX8_gusts_26 ?_
    refine r_ldc (pc := 27) B q914 dX8_gusts_27 ?_
    refine r_icmp_le (pc := 29) B 39 dX8_gusts_29 (by decide) (fun h29 => ?_) (fun h29 => ?_)
    · skip
      refine r_iconst (pc := 39) (x := 0) B dX8_gusts_39 (by decide) ?_
      refine r_istore_2 (pc := 40) B dX8_gusts_40 (by decide) rfl ?_
      refine r_iconst (pc := 41) (x := 0) B dX8_gusts_41 (by decide) ?_
      refine r_istore_3 (pc := 42) B dX8_gusts_42 (by decide) rfl ?_
      have hL43 : ∀ (p i : Nat) (q : Int32) (tl : Option Value), i + p = m → q = gcN (σ 66) N i → V X G shT (sR σ (gsN (σ 66) N i)) [some (.ref (ad G 65)), some (.int x), some (.int q), some (.int (nI i)), tl] [] 43 := by
        intro p
        induction p with
        | zero =>
          intro i q tl hi hq
          have ei : i = m := by omega
          subst ei
          refine r_iload_n (pc := 43) B dX8_gusts_43 rfl ?_
          refine r_iload_n (pc := 44) B dX8_gusts_44 rfl ?_
          refine r_icmp_ge (pc := 45) B 87 dX8_gusts_45 (by decide) (fun h45 => ?_) (fun h45 => ?_)
          · skip
            refine r_iload_n (pc := 87) B dX8_gusts_87 rfl ?_
            exact r_iret (pc := 88) B R dX8_gusts_88 (Or.inr (Or.inr ⟨i, hm, hm2, hx.1, Int32.not_lt.mp hx.2, h29, rfl, by rw [hq]⟩))
          · skip
            exact absurd (by rw [hm2]; exact Int32.le_refl _) h45
        | succ p ih =>
          intro i q tl hi hq
          have hp := pz_nI (gsN (σ 66) N i 2)
          refine r_iload_n (pc := 43) B dX8_gusts_43 rfl ?_
          refine r_iload_n (pc := 44) B dX8_gusts_44 rfl ?_
          refine r_icmp_ge (pc := 45) B 87 dX8_gusts_45 (by decide) (fun h45 => ?_) (fun h45 => ?_)
          · skip
            exact absurd ((nI_leI (a := m) (b := i) (by omega) (by omega)).mp (by rw [← hm2]; exact h45)) (by omega)
          · skip
            refine r_aload_n (pc := 48) B dX8_gusts_48 rfl ?_
            refine r_cVi0 (pc := 49) B KX8_199 (e_draw l G _) rfl rfl (by decide) (Nat.le_of_ble_eq_true rfl) dX8_gusts_49 ?_
            rw [sR_sR, sR_66]
            refine r_bipush (pc := 52) (x := 16) B dX8_gusts_52 (by decide) ?_
            refine r_irem (pc := 54) B (by decide) dX8_gusts_54 ?_
            rw [show dw (gsN (σ 66) N i 2) - dw (gsN (σ 66) N i 2) / 16 * 16 = nI (pz (gsN (σ 66) N i 2)) from hp.2]
            refine r_istore_4 (pc := 55) B dX8_gusts_55 (by decide) rfl ?_
            refine r_aload_n (pc := 57) B dX8_gusts_57 rfl ?_
            refine r_getr (pc := 58) B FX8_7 rfl rfl dX8_gusts_58 ?_
            refine r_bipush (pc := 61) (x := 21) B dX8_gusts_61 (by decide) ?_
            refine r_iload (pc := 63) B dX8_gusts_63 rfl ?_
            refine r_iadd (pc := 65) B dX8_gusts_65 ?_
            refine r_aload_n (pc := 66) B dX8_gusts_66 rfl ?_
            refine r_cVi0 (pc := 67) B KX8_199 (e_draw l G _) rfl rfl (by decide) (Nat.le_of_ble_eq_true rfl) dX8_gusts_67 ?_
            rw [sR_sR, sR_66, upd_up, show upd (gsN (σ 66) N i) 2 (zN (gsN (σ 66) N i 2)) 2 = zN (gsN (σ 66) N i 2) by rw [upd, if_pos rfl]]
            refine r_bipush (pc := 70) (x := 60) B dX8_gusts_70 (by decide) ?_
            refine r_irem (pc := 72) B (by decide) dX8_gusts_72 ?_
            refine r_iast (pc := 73) B rfl (ix_eq (pl_nI (n := 21) rfl) (by have := hp.1; omega) (by decide)) dX8_gusts_73 ?_
            rw [st2_66, sR_sR, sR_66]
            change V X G shT (sR σ (gsW (gsN (σ 66) N i))) _ _ _
            refine r_iload_n (pc := 74) B dX8_gusts_74 rfl ?_
            refine r_aload_n (pc := 75) B dX8_gusts_75 rfl ?_
            refine r_cVi0 (pc := 76) B KX8_122 (e_tick l G _ hN8 (by rw [sR_66, gsW_lo (by omega) (by omega), gs_0]; exact hN) (t := t + i) (by omega) (by rw [sR_66, gsW_lo (by omega) (by omega)]; exact gs_1 ht1 i (by omega)) (by rw [sR_66]; exact gsW_WR (gs_WR hW hN8 i))) rfl rfl (by decide) (Nat.le_of_ble_eq_true rfl) dX8_gusts_76 ?_
            rw [sR_sR, sR_66]
            refine r_iadd (pc := 79) B dX8_gusts_79 ?_
            refine r_istore_2 (pc := 80) B dX8_gusts_80 (by decide) rfl ?_
            refine r_iinc_3 (pc := 81) (y := _ + 1) B dX8_gusts_81 rfl (by decide) rfl ?_
            refine r_goto (pc := 84) B 43 dX8_gusts_84 (by decide) ?_
            rw [nI_1]
            exact ih (i + 1) _ _ (by omega) (by rw [hq]; rfl)
      rw [← sR_self σ]
      exact hL43 m 0 0 none (by omega) rfl
    · skip
      refine r_aload_n (pc := 32) B dX8_gusts_32 rfl ?_
      refine r_ldc (pc := 33) B q928 dX8_gusts_33 ?_
      refine r_cVi1 (pc := 35) B KX8_39 (e_finds l G _ (j := 4) rfl (by decide)) rfl rfl (by decide) (Nat.le_of_ble_eq_true rfl) dX8_gusts_35 ?_
      exact r_iret (pc := 38) B R dX8_gusts_38 (Or.inr (Or.inl ⟨hx.1, Int32.not_lt.mp hx.2, h29, rfl, rfl⟩))
  · skip
    refine r_aload_n (pc := 12) B dX8_gusts_12 rfl ?_
    refine r_ldc (pc := 13) B q836 dX8_gusts_13 ?_
    refine r_cVi1 (pc := 15) B KX8_39 (e_finds l G _ (j := 0) rfl (by decide)) rfl rfl (by decide) (Nat.le_of_ble_eq_true rfl) dX8_gusts_15 ?_
    exact r_iret (pc := 18) B R dX8_gusts_18 (Or.inl ⟨by by_cases q : x < 1; exact Or.inl q; exact Or.inr (fun z => bI_0.mp h9 ⟨q, Int32.not_lt.mpr z⟩), rfl, rfl⟩)
set_option maxHeartbeats 4000000 in
set_option maxRecDepth 20000 in
theorem e_seed (l : Launch) (G : GG) (σ : Sg) (v : Int32) : Ct l G mX8_seed 1 shT [.ref (ad G 65), .int v] σ (fun r τ => r = some (.int (σ 66 2)) ∧ τ = sR σ (upd (σ 66) 2 v)) := by
  refine ct_intro (by decide) (Nat.le_of_ble_eq_true rfl) (fun X B R => ?_)
  show V X G shT σ [some (.ref (ad G 65)), some (.int v)] [] 0
  refine r_aload_n (pc := 0) B dX8_seed_0 rfl ?_
  refine r_iconst (pc := 1) (x := 2) B dX8_seed_1 (by decide) ?_
  refine r_iload_n (pc := 2) B dX8_seed_2 rfl ?_
  refine r_cVi2 (pc := 3) B KX8_55 (e_becomes l G _ (m := 2) rfl (by decide) _) rfl rfl (by decide) (Nat.le_of_ble_eq_true rfl) dX8_seed_3 ?_
  exact r_iret (pc := 6) B R dX8_seed_6 ⟨rfl, rfl⟩
set_option maxHeartbeats 4000000 in
set_option maxRecDepth 20000 in
theorem e_wipe (l : Launch) (G : GG) (σ : Sg) : Ct l G mX8_wipe 0 shT [.ref (ad G 65)] σ (fun r τ => r = some (.int (σ 65 7)) ∧ τ = st2 σ 65 7 0) := by
  refine ct_intro (by decide) (Nat.le_of_ble_eq_true rfl) (fun X B R => ?_)
  show V X G shT σ [some (.ref (ad G 65)), none] [] 0
  refine r_aload_n (pc := 0) B dX8_wipe_0 rfl ?_
  refine r_geti (pc := 1) B FX8_209 rfl rfl dX8_wipe_1 ?_
  refine r_istore_1 (pc := 4) B dX8_wipe_4 (by decide) rfl ?_
  refine r_aload_n (pc := 5) B dX8_wipe_5 rfl ?_
  refine r_iconst (pc := 6) (x := 0) B dX8_wipe_6 (by decide) ?_
  refine r_puti (pc := 7) B PX8_209 rfl rfl dX8_wipe_7 ?_
  refine r_iload_n (pc := 10) B dX8_wipe_10 rfl ?_
  exact r_iret (pc := 11) B R dX8_wipe_11 ⟨rfl, rfl⟩
def byR (num : Int32) (i : Nat) : Int32 := (num >>> ((8 * nI i) &&& 31)) &&& 255
def apR (σ : Sg) (num : Int32) (L m j : Nat) : Sg := fun k i => if k = 65 ∧ i = 7 then nI (L + j) else if k = 71 ∧ L ≤ i ∧ i < L + j then byR num (m - 1 - (i - L)) else σ k i

set_option maxHeartbeats 4000000 in
set_option maxRecDepth 20000 in
theorem e_feed (l : Launch) (G : GG) (σ : Sg) (b n : Int32) {L : Nat} (hL8 : L ≤ 120) (hL : σ 65 7 = nI L) : Ct l G mX8_feed 1 shT [.ref (ad G 65), .int b, .int n] σ (fun r τ => ((n < 1 ∨ ¬ n ≤ 4) ∧ gQ σ 0 r τ) ∨ ∃ m, 1 ≤ m ∧ m ≤ 4 ∧ n = nI m ∧ ((120 < L + m ∧ gQ σ 1 r τ) ∨ (L + m ≤ 120 ∧ r = some (.int (nI (L + m))) ∧ τ = apR σ b L m m))) := by
  refine ct_intro (by decide) (Nat.le_of_ble_eq_true rfl) (fun X B R => ?_)
  show V X G shT σ [some (.ref (ad G 65)), some (.int b), some (.int n), none] [] 0
  refine r_iload_n (pc := 0) B dX8_feed_0 rfl ?_
  refine r_i2l (pc := 1) B dX8_feed_1 ?_
  refine r_lconst (pc := 2) (x := 1) B dX8_feed_2 rfl ?_
  refine r_ldc2_w (pc := 3) B q849 dX8_feed_3 ?_
  refine r_cSi3 (pc := 6) B KX8_49 (e_isIn l G _ _ (v := n) (a := 1) (b := 4) rfl rfl rfl) (by decide) (Nat.le_of_ble_eq_true rfl) dX8_feed_6 ?_
  refine r_if_ne (pc := 9) B 19 dX8_feed_9 (by decide) (fun h9 => ?_) (fun h9 => ?_)
  · skip
    have hx := bI_n.mp h9
    obtain ⟨m, hm, hm2⟩ := wi_nI (x := n) (g := 4) (by decide) ⟨fun z => hx.1 (Int32.lt_trans z (by decide)), hx.2⟩
    have hm1 : 1 ≤ m := by rcases Nat.eq_zero_or_pos m with q | q; exact absurd (by rw [hm2, q]; decide) hx.1; exact q
    refine r_aload_n (pc := 19) B dX8_feed_19 rfl ?_
    refine r_geti (pc := 20) B FX8_209 rfl rfl dX8_feed_20 ?_
    refine r_iload_n (pc := 23) B dX8_feed_23 rfl ?_
    refine r_iadd (pc := 24) B dX8_feed_24 ?_
    rw [hL, hm2, nI_add]
    refine r_bipush (pc := 25) (x := 120) B dX8_feed_25 (by decide) ?_
    refine r_icmp_le (pc := 27) B 37 dX8_feed_27 (by decide) (fun h27 => ?_) (fun h27 => ?_)
    · skip
      have hlm : L + m ≤ 120 := (nI_leI (b := 120) (by omega) (by omega)).mp h27
      refine r_iload_n (pc := 37) B dX8_feed_37 rfl ?_
      refine r_iconst (pc := 38) (x := 1) B dX8_feed_38 (by decide) ?_
      refine r_isub (pc := 39) B dX8_feed_39 ?_
      refine r_istore_3 (pc := 40) B dX8_feed_40 (by decide) rfl ?_
      have hL41 : ∀ (p j : Nat), j + p = m → V X G shT (apR σ b L m j) [some (.ref (ad G 65)), some (.int b), some (.int n), some (.int (gI p))] [] 41 := by
        intro p
        induction p with
        | zero =>
          intro j hj
          have ej : j = m := by omega
          subst ej
          refine r_iload_n (pc := 41) B dX8_feed_41 rfl ?_
          refine r_if_lt (pc := 42) B 80 dX8_feed_42 (by decide) (fun h42 => ?_) (fun h42 => ?_)
          · skip
            refine r_aload_n (pc := 80) B dX8_feed_80 rfl ?_
            refine r_geti (pc := 81) B FX8_209 rfl rfl dX8_feed_81 ?_
            exact r_iret (pc := 84) B R dX8_feed_84 (Or.inr ⟨j, hm1, hm, hm2, Or.inr ⟨hlm, by simp [apR], rfl⟩⟩)
          · skip
            exact absurd (show gI 0 < 0 by decide) h42
        | succ p ih =>
          intro j hj
          refine r_iload_n (pc := 41) B dX8_feed_41 rfl ?_
          refine r_if_lt (pc := 42) B 80 dX8_feed_42 (by decide) (fun h42 => ?_) (fun h42 => ?_)
          · skip
            exact absurd h42 (nI_pos (by omega))
          · skip
            refine r_aload_n (pc := 45) B dX8_feed_45 rfl ?_
            refine r_getr (pc := 46) B FX8_25 rfl rfl dX8_feed_46 ?_
            refine r_aload_n (pc := 49) B dX8_feed_49 rfl ?_
            refine r_geti (pc := 50) B FX8_209 rfl rfl dX8_feed_50 ?_
            rw [show apR σ b L m j 65 7 = nI (L + j) by simp [apR]]
            refine r_iload_n (pc := 53) B dX8_feed_53 rfl ?_
            refine r_bipush (pc := 54) (x := 8) B dX8_feed_54 (by decide) ?_
            refine r_iload_n (pc := 56) B dX8_feed_56 rfl ?_
            refine r_imul (pc := 57) B dX8_feed_57 ?_
            refine r_ishr (pc := 58) B dX8_feed_58 ?_
            refine r_sipush (pc := 59) (x := 255) B dX8_feed_59 (by decide) ?_
            refine r_iand (pc := 62) B dX8_feed_62 ?_
            refine r_iast (pc := 63) B rfl (ix_nI (by omega) (by decide)) dX8_feed_63 ?_
            refine r_aload_n (pc := 64) B dX8_feed_64 rfl ?_
            refine r_dup (pc := 65) B rfl dX8_feed_65 ?_
            refine r_geti (pc := 66) B FX8_209 rfl rfl dX8_feed_66 ?_
            rw [show ∀ v, st2 (apR σ b L m j) 71 (L + j) v 65 7 = nI (L + j) by intro v; simp [st2, apR]]
            refine r_iconst (pc := 69) (x := 1) B dX8_feed_69 (by decide) ?_
            refine r_iadd (pc := 70) B dX8_feed_70 ?_
            refine r_puti (pc := 71) B PX8_209 rfl rfl dX8_feed_71 ?_
            rw [nI_1, show st2 (st2 (apR σ b L m j) 71 (L + j) ((b >>> ((8 * gI (p + 1)) &&& 31)) &&& 255)) 65 7 (nI (L + j + 1)) = apR σ b L m (j + 1) by clear ih B R; funext k i; simp only [st2, apR, byR, show gI (p + 1) = nI p from rfl]; have e : m - 1 - (L + j - L) = p := (by omega); grind]
            refine r_iinc_3 (pc := 74) (y := _ + (-1)) B dX8_feed_74 rfl (by decide) rfl ?_
            refine r_goto (pc := 77) B 41 dX8_feed_77 (by decide) ?_
            rw [show gI (p + 1) + -1 = gI p by rw [← Int32.sub_eq_add_neg]; exact gI_dn p (by omega)]
            exact ih (j + 1) (by omega)
      rw [show σ = apR σ b L m 0 by funext k i; unfold apR; split; (rename_i q; rw [q.1, q.2, hL]; rfl); (rw [if_neg (by omega)])]
      rw [← hm2, hm2, show nI m - 1 = gI m by have := gI_dn m (by omega); rw [← this]; rfl]
      rw [← hm2]
      exact hL41 m 0 (by omega)
    · skip
      have hlm : 120 < L + m := by rcases Nat.lt_or_ge 120 (L + m) with q | q; exact q; exact absurd ((nI_leI (b := 120) (by omega) (by omega)).mpr q) h27
      refine r_aload_n (pc := 30) B dX8_feed_30 rfl ?_
      refine r_ldc (pc := 31) B q871 dX8_feed_31 ?_
      refine r_cVi1 (pc := 33) B KX8_39 (e_finds l G _ (j := 1) rfl (by decide)) rfl rfl (by decide) (Nat.le_of_ble_eq_true rfl) dX8_feed_33 ?_
      exact r_iret (pc := 36) B R dX8_feed_36 (Or.inr ⟨m, hm1, hm, hm2, Or.inl ⟨hlm, rfl, rfl⟩⟩)
  · skip
    refine r_aload_n (pc := 12) B dX8_feed_12 rfl ?_
    refine r_ldc (pc := 13) B q836 dX8_feed_13 ?_
    refine r_cVi1 (pc := 15) B KX8_39 (e_finds l G _ (j := 0) rfl (by decide)) rfl rfl (by decide) (Nat.le_of_ble_eq_true rfl) dX8_feed_15 ?_
    exact r_iret (pc := 18) B R dX8_feed_18 (Or.inl ⟨by by_cases q : n < 1; exact Or.inl q; exact Or.inr (fun z => bI_0.mp h9 ⟨q, Int32.not_lt.mpr z⟩), rfl, rfl⟩)

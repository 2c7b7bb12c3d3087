/-! umbrellaHere -/
theorem rT.row {ζ σ : Sg} {L : Nat} {t : TS} {w : Nat → Int32} (h : rT ζ σ L t w) (x : Nat → Int32) : rT ζ (sR σ x) L t x := by
  obtain ⟨⟨h1, h2, h3, h4, h5, h6, h7, h8⟩, hw, hk, hi, hv⟩ := h
  have e : sR σ x 65 = σ 65 := sR_ne (by decide)
  exact ⟨⟨h1, by rw [e]; exact h2, by rw [e]; exact h3, by rw [e]; exact h4, by rw [e]; exact h5, by rw [e]; exact h6, h7, h8⟩, rfl, fun k a b => by rw [sR_ne b]; exact hk k a b, fun i q => by rw [e]; exact hi i q, hv⟩
theorem bnR_f {r : RES} {k : TS → (Nat → Int32) → RES} (h : ¬ r.1 = true) : bnR r k = r := by unfold bnR; rw [if_neg h]
theorem bnR_t {r : RES} {k : TS → (Nat → Int32) → RES} (h : r.1 = true) : bnR r k = k r.2.1 r.2.2 := by unfold bnR; rw [if_pos h]
theorem rE.f {ζ τ : Sg} {L : Nat} {s : RES} (h : rE ζ L s τ) (q : ¬ s.1 = true) : bI (s.1 = true) = 0 := bI_0.mpr q

theorem f1v {p : Prop} [Decidable p] (h : ¬ p) : bI p = 0 := bI_0.mpr h
theorem t1v {p : Prop} [Decidable p] (h : p) : bI p = 1 := (bI_t h).symm

set_option maxHeartbeats 4000000 in
set_option maxRecDepth 20000 in
theorem e_umbrellaHere (l : Launch) (G : GG) {ζ σ : Sg} {L : Nat} {t : TS} {w : Nat → Int32} (hby : byP ζ L) (h : rT ζ σ L t w) {n a : Nat} {z : Int32} (hz : z = nI a) (hn : w 0 = nI n) (hnb : n ≤ 8) : CpI l G mX8_umbrellaHere 3 shT [.ref (ad G 65), .int z] σ (bI ((umF (ζ 71) L a t w).1 = true)) (rE ζ L (umF (ζ 71) L a t w)) := by
  subst hz
  have hcl : (w 0).toNatClampNeg = n := by rw [hn]; exact nI_clamp (by omega)
  refine ct_intro (by decide) (Nat.le_of_ble_eq_true rfl) (fun X B R => ?_)
  show V X G shT σ [some (.ref (ad G 65)), some (.int (nI a))] [] 0
  refine r_aload_n (pc := 0) B dX8_umbrellaHere_0 rfl ?_
  refine r_getr (pc := 1) B FX8_7 rfl rfl dX8_umbrellaHere_1 ?_
  refine r_iconst (pc := 4) (x := 0) B dX8_umbrellaHere_4 (by decide) ?_
  refine r_iald (pc := 5) B rfl (ix_of 0 rfl) dX8_umbrellaHere_5 ?_
  rw [h.2.1, hn]
  refine r_bipush (pc := 6) (x := 8) B dX8_umbrellaHere_6 (by decide) ?_
  refine r_icmp_ne (pc := 8) B 16 dX8_umbrellaHere_8 (by decide) (fun h8 => ?_) (fun h8 => ?_)
  · skip
    have n8 : n < 8 := by rcases Nat.lt_or_ge n 8 with q | q; exact q; exact absurd (by rw [show n = 8 by omega]; rfl) h8
    have hU : (umF (ζ 71) L a t w) = umC (ζ 71) L n (nx (ζ 71) L t) (cmR w n (nI a)) := by rw [umF, hcl, if_neg (by omega)]; rfl
    refine r_aload_n (pc := 16) B dX8_umbrellaHere_16 rfl ?_
    refine r_iload_n (pc := 17) B dX8_umbrellaHere_17 rfl ?_
    refine r_cVv1 (pc := 18) B KX8_76 (e_comes l G _ n8 (by rw [h.2.1]; exact hn) _) rfl rfl (by decide) (Nat.le_of_ble_eq_true rfl) dX8_umbrellaHere_18 ?_
    rw [h.2.1]
    have hx := h.row (cmR w n (nI a))
    refine r_aload_n (pc := 21) B dX8_umbrellaHere_21 rfl ?_
    refine r_cVpv0 (pc := 22) B KX8_258 (e_ntT l G hby hx) rfl rfl (by decide) (Nat.le_of_ble_eq_true rfl) dX8_umbrellaHere_22 (fun ρ1 k0 => ?_)
    refine r_aload_n (pc := 25) B dX8_umbrellaHere_25 rfl ?_
    refine r_aload_n (pc := 26) B dX8_umbrellaHere_26 rfl ?_
    refine r_bipush (pc := 27) (x := 97) B dX8_umbrellaHere_27 (by decide) ?_
    refine r_bipush (pc := 29) (x := 116) B dX8_umbrellaHere_29 (by decide) ?_
    refine r_cVi2 (pc := 31) B KX8_264 (e_isTwo l G _ k0.1 _ _) rfl rfl (by decide) (Nat.le_of_ble_eq_true rfl) dX8_umbrellaHere_31 ?_
    have v7 := @wd_7 ρ1 L (nx (ζ 71) L t)
    rw [k0.by] at v7
    rw [← bI_cg v7]
    refine r_iconst (pc := 34) (x := 1) B dX8_umbrellaHere_34 (by decide) ?_
    refine r_cVpi2 (pc := 35) B KX8_267 (e_perhaps l G hby k0 (wdP (ζ 71) L (nx (ζ 71) L t) 7) (u := n) (f := 1) (g := 16) rfl rfl (by decide) rfl (by decide) (by omega) (by rw [cmR, upd, if_pos rfl])) rfl rfl (by decide) (Nat.le_of_ble_eq_true rfl) dX8_umbrellaHere_35 (fun ρ2 k1 => ?_)
    rw [mkG_e] at k1
    rw [mkG_e]
    refine r_if_eq (pc := 38) B 107 dX8_umbrellaHere_38 (by decide) (fun h38 => ?_) (fun h38 => ?_)
    · skip
      have f1 := bI_0.mp h38
      refine r_iconst (pc := 107) (x := 0) B dX8_umbrellaHere_107 (by decide) ?_
      exact r_zret (pc := 108) B R (by first | decide | exact bI_01 _) dX8_umbrellaHere_108 (by first | exact ⟨by rw [hU, umC, bnR_f f1, f1v f1], by rw [hU, umC, bnR_f f1]; exact k1⟩ | exact ⟨by rw [hU, umC, bnR_t t1, bnR_f f2, f1v f2], by rw [hU, umC, bnR_t t1, bnR_f f2]; exact k2⟩ | exact ⟨by rw [hU, umC, bnR_t t1, bnR_t t2, bnR_f f3, f1v f3], by rw [hU, umC, bnR_t t1, bnR_t t2, bnR_f f3]; exact k3⟩ | exact ⟨by rw [hU, umC, bnR_t t1, bnR_t t2, bnR_t t3, f1v f4], by rw [hU, umC, bnR_t t1, bnR_t t2, bnR_t t3]; exact k4⟩ | exact ⟨by rw [hU, umC, bnR_t t1, bnR_t t2, bnR_t t3, t1v t4], by rw [hU, umC, bnR_t t1, bnR_t t2, bnR_t t3]; exact k4⟩)
    · skip
      have t1 := bI_n.mp h38
      refine r_aload_n (pc := 41) B dX8_umbrellaHere_41 rfl ?_
      refine r_aload_n (pc := 42) B dX8_umbrellaHere_42 rfl ?_
      refine r_bipush (pc := 43) (x := 114) B dX8_umbrellaHere_43 (by decide) ?_
      refine r_bipush (pc := 45) (x := 105) B dX8_umbrellaHere_45 (by decide) ?_
      refine r_bipush (pc := 47) (x := 98) B dX8_umbrellaHere_47 (by decide) ?_
      refine r_bipush (pc := 49) (x := 115) B dX8_umbrellaHere_49 (by decide) ?_
      refine r_cVi4 (pc := 51) B KX8_251 (e_isFour l G _ k1.1.1 _ _ _ _) rfl rfl (by decide) (Nat.le_of_ble_eq_true rfl) dX8_umbrellaHere_51 ?_
      have v8 := @wd_8 ρ2 L (mkF (ζ 71) L 7 n 1 16 (nx (ζ 71) L t) (cmR w n (nI a))).2.1
      rw [k1.1.by] at v8
      rw [← bI_cg v8]
      refine r_iconst (pc := 54) (x := 4) B dX8_umbrellaHere_54 (by decide) ?_
      refine r_cVpi2 (pc := 55) B KX8_267 (e_perhaps l G hby k1.1 (wdP (ζ 71) L (mkF (ζ 71) L 7 n 1 16 (nx (ζ 71) L t) (cmR w n (nI a))).2.1 8) (u := n) (f := 4) (g := 8) rfl rfl (by decide) rfl (by decide) (by omega) (by rw [mkF_0, cmR, upd, if_pos rfl])) rfl rfl (by decide) (Nat.le_of_ble_eq_true rfl) dX8_umbrellaHere_55 (fun ρ3 k2 => ?_)
      rw [mkG_e] at k2
      rw [mkG_e]
      refine r_if_eq (pc := 58) B 107 dX8_umbrellaHere_58 (by decide) (fun h58 => ?_) (fun h58 => ?_)
      · skip
        have f2 := bI_0.mp h58
        refine r_iconst (pc := 107) (x := 0) B dX8_umbrellaHere_107 (by decide) ?_
        exact r_zret (pc := 108) B R (by first | decide | exact bI_01 _) dX8_umbrellaHere_108 (by first | exact ⟨by rw [hU, umC, bnR_f f1, f1v f1], by rw [hU, umC, bnR_f f1]; exact k1⟩ | exact ⟨by rw [hU, umC, bnR_t t1, bnR_f f2, f1v f2], by rw [hU, umC, bnR_t t1, bnR_f f2]; exact k2⟩ | exact ⟨by rw [hU, umC, bnR_t t1, bnR_t t2, bnR_f f3, f1v f3], by rw [hU, umC, bnR_t t1, bnR_t t2, bnR_f f3]; exact k3⟩ | exact ⟨by rw [hU, umC, bnR_t t1, bnR_t t2, bnR_t t3, f1v f4], by rw [hU, umC, bnR_t t1, bnR_t t2, bnR_t t3]; exact k4⟩ | exact ⟨by rw [hU, umC, bnR_t t1, bnR_t t2, bnR_t t3, t1v t4], by rw [hU, umC, bnR_t t1, bnR_t t2, bnR_t t3]; exact k4⟩)
      · skip
        have t2 := bI_n.mp h58
        refine r_aload_n (pc := 61) B dX8_umbrellaHere_61 rfl ?_
        refine r_aload_n (pc := 62) B dX8_umbrellaHere_62 rfl ?_
        refine r_bipush (pc := 63) (x := 104) B dX8_umbrellaHere_63 (by decide) ?_
        refine r_bipush (pc := 65) (x := 101) B dX8_umbrellaHere_65 (by decide) ?_
        refine r_bipush (pc := 67) (x := 108) B dX8_umbrellaHere_67 (by decide) ?_
        refine r_bipush (pc := 69) (x := 100) B dX8_umbrellaHere_69 (by decide) ?_
        refine r_cVi4 (pc := 71) B KX8_251 (e_isFour l G _ k2.1.1 _ _ _ _) rfl rfl (by decide) (Nat.le_of_ble_eq_true rfl) dX8_umbrellaHere_71 ?_
        have v9 := @wd_9 ρ3 L (mkF (ζ 71) L 8 n 4 8 (mkF (ζ 71) L 7 n 1 16 (nx (ζ 71) L t) (cmR w n (nI a))).2.1 (mkF (ζ 71) L 7 n 1 16 (nx (ζ 71) L t) (cmR w n (nI a))).2.2).2.1
        rw [k2.1.by] at v9
        rw [← bI_cg v9]
        refine r_iconst (pc := 74) (x := 2) B dX8_umbrellaHere_74 (by decide) ?_
        refine r_cVpi2 (pc := 75) B KX8_267 (e_perhaps l G hby k2.1 (wdP (ζ 71) L (mkF (ζ 71) L 8 n 4 8 (mkF (ζ 71) L 7 n 1 16 (nx (ζ 71) L t) (cmR w n (nI a))).2.1 (mkF (ζ 71) L 7 n 1 16 (nx (ζ 71) L t) (cmR w n (nI a))).2.2).2.1 9) (u := n) (f := 2) (g := 3) rfl rfl (by decide) rfl (by decide) (by omega) (by rw [mkF_0, mkF_0, cmR, upd, if_pos rfl])) rfl rfl (by decide) (Nat.le_of_ble_eq_true rfl) dX8_umbrellaHere_75 (fun ρ4 k3 => ?_)
        rw [mkG_e] at k3
        rw [mkG_e]
        refine r_if_eq (pc := 78) B 107 dX8_umbrellaHere_78 (by decide) (fun h78 => ?_) (fun h78 => ?_)
        · skip
          have f3 := bI_0.mp h78
          refine r_iconst (pc := 107) (x := 0) B dX8_umbrellaHere_107 (by decide) ?_
          exact r_zret (pc := 108) B R (by first | decide | exact bI_01 _) dX8_umbrellaHere_108 (by first | exact ⟨by rw [hU, umC, bnR_f f1, f1v f1], by rw [hU, umC, bnR_f f1]; exact k1⟩ | exact ⟨by rw [hU, umC, bnR_t t1, bnR_f f2, f1v f2], by rw [hU, umC, bnR_t t1, bnR_f f2]; exact k2⟩ | exact ⟨by rw [hU, umC, bnR_t t1, bnR_t t2, bnR_f f3, f1v f3], by rw [hU, umC, bnR_t t1, bnR_t t2, bnR_f f3]; exact k3⟩ | exact ⟨by rw [hU, umC, bnR_t t1, bnR_t t2, bnR_t t3, f1v f4], by rw [hU, umC, bnR_t t1, bnR_t t2, bnR_t t3]; exact k4⟩ | exact ⟨by rw [hU, umC, bnR_t t1, bnR_t t2, bnR_t t3, t1v t4], by rw [hU, umC, bnR_t t1, bnR_t t2, bnR_t t3]; exact k4⟩)
        · skip
          have t3 := bI_n.mp h78
          refine r_aload_n (pc := 81) B dX8_umbrellaHere_81 rfl ?_
          refine r_aload_n (pc := 82) B dX8_umbrellaHere_82 rfl ?_
          refine r_bipush (pc := 83) (x := 104) B dX8_umbrellaHere_83 (by decide) ?_
          refine r_bipush (pc := 85) (x := 97) B dX8_umbrellaHere_85 (by decide) ?_
          refine r_bipush (pc := 87) (x := 98) B dX8_umbrellaHere_87 (by decide) ?_
          refine r_bipush (pc := 89) (x := 105) B dX8_umbrellaHere_89 (by decide) ?_
          refine r_bipush (pc := 91) (x := 116) B dX8_umbrellaHere_91 (by decide) ?_
          refine r_cVi5 (pc := 93) B KX8_247 (e_isFive l G _ k3.1.1 _ _ _ _ _) rfl rfl (by decide) (Nat.le_of_ble_eq_true rfl) dX8_umbrellaHere_93 ?_
          have v10 := @wd_10 ρ4 L (mkF (ζ 71) L 9 n 2 3 (mkF (ζ 71) L 8 n 4 8 (mkF (ζ 71) L 7 n 1 16 (nx (ζ 71) L t) (cmR w n (nI a))).2.1 (mkF (ζ 71) L 7 n 1 16 (nx (ζ 71) L t) (cmR w n (nI a))).2.2).2.1 (mkF (ζ 71) L 8 n 4 8 (mkF (ζ 71) L 7 n 1 16 (nx (ζ 71) L t) (cmR w n (nI a))).2.1 (mkF (ζ 71) L 7 n 1 16 (nx (ζ 71) L t) (cmR w n (nI a))).2.2).2.2).2.1
          rw [k3.1.by] at v10
          rw [← bI_cg v10]
          refine r_iconst (pc := 96) (x := 3) B dX8_umbrellaHere_96 (by decide) ?_
          refine r_cVpi2 (pc := 97) B KX8_267 (e_perhaps l G hby k3.1 (wdP (ζ 71) L (mkF (ζ 71) L 9 n 2 3 (mkF (ζ 71) L 8 n 4 8 (mkF (ζ 71) L 7 n 1 16 (nx (ζ 71) L t) (cmR w n (nI a))).2.1 (mkF (ζ 71) L 7 n 1 16 (nx (ζ 71) L t) (cmR w n (nI a))).2.2).2.1 (mkF (ζ 71) L 8 n 4 8 (mkF (ζ 71) L 7 n 1 16 (nx (ζ 71) L t) (cmR w n (nI a))).2.1 (mkF (ζ 71) L 7 n 1 16 (nx (ζ 71) L t) (cmR w n (nI a))).2.2).2.2).2.1 10) (u := n) (f := 3) (g := 3) rfl rfl (by decide) rfl (by decide) (by omega) (by rw [mkF_0, mkF_0, mkF_0, cmR, upd, if_pos rfl])) rfl rfl (by decide) (Nat.le_of_ble_eq_true rfl) dX8_umbrellaHere_97 (fun ρ5 k4 => ?_)
          rw [mkG_e] at k4
          rw [mkG_e]
          refine r_if_eq (pc := 100) B 107 dX8_umbrellaHere_100 (by decide) (fun h100 => ?_) (fun h100 => ?_)
          · skip
            have f4 := bI_0.mp h100
            refine r_iconst (pc := 107) (x := 0) B dX8_umbrellaHere_107 (by decide) ?_
            exact r_zret (pc := 108) B R (by first | decide | exact bI_01 _) dX8_umbrellaHere_108 (by first | exact ⟨by rw [hU, umC, bnR_f f1, f1v f1], by rw [hU, umC, bnR_f f1]; exact k1⟩ | exact ⟨by rw [hU, umC, bnR_t t1, bnR_f f2, f1v f2], by rw [hU, umC, bnR_t t1, bnR_f f2]; exact k2⟩ | exact ⟨by rw [hU, umC, bnR_t t1, bnR_t t2, bnR_f f3, f1v f3], by rw [hU, umC, bnR_t t1, bnR_t t2, bnR_f f3]; exact k3⟩ | exact ⟨by rw [hU, umC, bnR_t t1, bnR_t t2, bnR_t t3, f1v f4], by rw [hU, umC, bnR_t t1, bnR_t t2, bnR_t t3]; exact k4⟩ | exact ⟨by rw [hU, umC, bnR_t t1, bnR_t t2, bnR_t t3, t1v t4], by rw [hU, umC, bnR_t t1, bnR_t t2, bnR_t t3]; exact k4⟩)
          · skip
            have t4 := bI_n.mp h100
            refine r_iconst (pc := 103) (x := 1) B dX8_umbrellaHere_103 (by decide) ?_
            refine r_goto (pc := 104) B 108 dX8_umbrellaHere_104 (by decide) ?_
            exact r_zret (pc := 108) B R (by first | decide | exact bI_01 _) dX8_umbrellaHere_108 (by first | exact ⟨by rw [hU, umC, bnR_f f1, f1v f1], by rw [hU, umC, bnR_f f1]; exact k1⟩ | exact ⟨by rw [hU, umC, bnR_t t1, bnR_f f2, f1v f2], by rw [hU, umC, bnR_t t1, bnR_f f2]; exact k2⟩ | exact ⟨by rw [hU, umC, bnR_t t1, bnR_t t2, bnR_f f3, f1v f3], by rw [hU, umC, bnR_t t1, bnR_t t2, bnR_f f3]; exact k3⟩ | exact ⟨by rw [hU, umC, bnR_t t1, bnR_t t2, bnR_t t3, f1v f4], by rw [hU, umC, bnR_t t1, bnR_t t2, bnR_t t3]; exact k4⟩ | exact ⟨by rw [hU, umC, bnR_t t1, bnR_t t2, bnR_t t3, t1v t4], by rw [hU, umC, bnR_t t1, bnR_t t2, bnR_t t3]; exact k4⟩)
  · skip
    have n8 : n = 8 := (nI_eq (b := 8) (by omega) (by omega)).mp h8
    refine r_aload_n (pc := 11) B dX8_umbrellaHere_11 rfl ?_
    refine r_cVi0 (pc := 12) B KX8_243 (e_fails l G _) rfl rfl (by decide) (Nat.le_of_ble_eq_true rfl) dX8_umbrellaHere_12 ?_
    rw [h.1.2.2.2.1]
    exact r_zret (pc := 15) B R (by first | decide | exact bI_01 _) dX8_umbrellaHere_15 ⟨by rw [umF, hcl, if_pos n8]; rfl, by rw [umF, hcl, if_pos n8]; exact rE_f h⟩

/-! stepHere, perhaps -/
set_option maxHeartbeats 4000000 in
set_option maxRecDepth 20000 in
theorem e_stepHere (l : Launch) (G : GG) {ζ σ : Sg} {L : Nat} {t : TS} {w : Nat → Int32} (hby : byP ζ L) (h : rT ζ σ L t w) {c : Nat} {x : Int32} (hx : x = nI c) : CpI l G mX8_stepHere 2 shT [.ref (ad G 65), .int x] σ (bI ((wnF (ζ 71) L c t w).1 = true)) (rE ζ L (wnF (ζ 71) L c t w)) := by
  subst hx
  refine ct_intro (by decide) (Nat.le_of_ble_eq_true rfl) (fun X B R => ?_)
  show V X G shT σ [some (.ref (ad G 65)), some (.int (nI c)), none] [] 0
  refine r_aload_n (pc := 0) B dX8_stepHere_0 rfl ?_
  refine r_cVpv0 (pc := 1) B KX8_258 (e_ntT l G hby h) rfl rfl (by decide) (Nat.le_of_ble_eq_true rfl) dX8_stepHere_1 (fun ρ1 h1 => ?_)
  refine r_aload_n (pc := 4) B dX8_stepHere_4 rfl ?_
  refine r_iconst (pc := 5) (x := 0) B dX8_stepHere_5 (by decide) ?_
  refine r_bipush (pc := 6) (x := 15) B dX8_stepHere_6 (by decide) ?_
  refine r_cVi2 (pc := 8) B KX8_261 (e_isNumber l G _ (g := 15) h1.1 rfl rfl (by decide) h1.2.2.2.2) rfl rfl (by decide) (Nat.le_of_ble_eq_true rfl) dX8_stepHere_8 ?_
  refine r_if_ne (pc := 11) B 16 dX8_stepHere_11 (by decide) (fun h11 => ?_) (fun h11 => ?_)
  · skip
    have hok := bI_n.mp h11
    rw [if_pos hok]
    refine r_aload_n (pc := 16) B dX8_stepHere_16 rfl ?_
    refine r_geti (pc := 17) B FX8_230 rfl rfl dX8_stepHere_17 ?_
    rw [h1.1.2.2.2.2.2.1]
    refine r_istore_2 (pc := 20) B dX8_stepHere_20 (by decide) rfl ?_
    refine r_aload_n (pc := 21) B dX8_stepHere_21 rfl ?_
    refine r_cVpv0 (pc := 22) B KX8_258 (e_ntT l G hby h1) rfl rfl (by decide) (Nat.le_of_ble_eq_true rfl) dX8_stepHere_22 (fun ρ2 h2 => ?_)
    refine r_aload_n (pc := 25) B dX8_stepHere_25 rfl ?_
    refine r_iconst (pc := 26) (x := 0) B dX8_stepHere_26 (by decide) ?_
    refine r_bipush (pc := 27) (x := 99) B dX8_stepHere_27 (by decide) ?_
    refine r_cVi2 (pc := 29) B KX8_261 (e_isNumber l G _ (g := 99) h2.1 rfl rfl (by decide) h2.2.2.2.2) rfl rfl (by decide) (Nat.le_of_ble_eq_true rfl) dX8_stepHere_29 ?_
    refine r_if_ne (pc := 32) B 37 dX8_stepHere_32 (by decide) (fun h32 => ?_) (fun h32 => ?_)
    · skip
      have hok2 := bI_n.mp h32
      rw [if_pos hok2]
      refine r_aload_n (pc := 37) B dX8_stepHere_37 rfl ?_
      refine r_getr (pc := 38) B FX8_7 rfl rfl dX8_stepHere_38 ?_
      refine r_iconst (pc := 41) (x := 5) B dX8_stepHere_41 (by decide) ?_
      refine r_iload_n (pc := 42) B dX8_stepHere_42 rfl ?_
      refine r_iadd (pc := 43) B dX8_stepHere_43 ?_
      refine r_iload_n (pc := 44) B dX8_stepHere_44 rfl ?_
      refine r_iast (pc := 45) B rfl (ix_eq (pl_nI (n := 5) rfl) (by have := hok.2; omega) (by decide)) dX8_stepHere_45 ?_
      have h3 := h2.put (5 + (nx (ζ 71) L t).2.2.2) (nI c)
      refine r_aload_n (pc := 46) B dX8_stepHere_46 rfl ?_
      refine r_getr (pc := 47) B FX8_7 rfl rfl dX8_stepHere_47 ?_
      refine r_bipush (pc := 50) (x := 21) B dX8_stepHere_50 (by decide) ?_
      refine r_iload_n (pc := 52) B dX8_stepHere_52 rfl ?_
      refine r_iadd (pc := 53) B dX8_stepHere_53 ?_
      refine r_aload_n (pc := 54) B dX8_stepHere_54 rfl ?_
      refine r_geti (pc := 55) B FX8_230 rfl rfl dX8_stepHere_55 ?_
      rw [h3.1.2.2.2.2.2.1]
      refine r_iast (pc := 58) B rfl (ix_eq (pl_nI (n := 21) rfl) (by have := hok.2; omega) (by decide)) dX8_stepHere_58 ?_
      have h4 := h3.put (21 + (nx (ζ 71) L t).2.2.2) (nI (nx (ζ 71) L (nx (ζ 71) L t)).2.2.2)
      refine r_aload_n (pc := 59) B dX8_stepHere_59 rfl ?_
      refine r_cVpv0 (pc := 60) B KX8_258 (e_ntT l G hby h4) rfl rfl (by decide) (Nat.le_of_ble_eq_true rfl) dX8_stepHere_60 (fun ρ3 h5 => ?_)
      refine r_iconst (pc := 63) (x := 1) B dX8_stepHere_63 (by decide) ?_
      exact r_zret (pc := 64) B R (by first | decide | exact bI_01 _) dX8_stepHere_64 ⟨by rw [wnF, if_pos hok, if_pos hok2]; rfl, by rw [wnF, if_pos hok, if_pos hok2]; exact rE_t h5⟩
    · skip
      have hno2 := bI_0.mp h32
      rw [if_neg hno2]
      refine r_iconst (pc := 35) (x := 0) B dX8_stepHere_35 (by decide) ?_
      exact r_zret (pc := 36) B R (by first | decide | exact bI_01 _) dX8_stepHere_36 ⟨by rw [wnF, if_pos hok, if_neg hno2]; rfl, by rw [wnF, if_pos hok, if_neg hno2]; exact rE_f h2⟩
  · skip
    have hno := bI_0.mp h11
    rw [if_neg hno]
    refine r_iconst (pc := 14) (x := 0) B dX8_stepHere_14 (by decide) ?_
    exact r_zret (pc := 15) B R (by first | decide | exact bI_01 _) dX8_stepHere_15 ⟨by rw [wnF, if_neg hno]; rfl, by rw [wnF, if_neg hno]; exact rE_f h1⟩
def mkG (p : Prop) [Decidable p] (by1 : Nat → Int32) (L u f g : Nat) (t : TS) (w : Nat → Int32) : RES := if p then (if okN (nx by1 L t) g then (true, nx by1 L (nx by1 L t), upd w (53 + 8 * u + f) (nI (nx by1 L t).2.2.2)) else (false, nx by1 L t, w)) else (true, t, w)
theorem mkG_e (by1 : Nat → Int32) (L i u f g : Nat) (t : TS) (w : Nat → Int32) : mkG (wdP by1 L t i) by1 L u f g t w = mkF by1 L i u f g t w := rfl

set_option maxHeartbeats 4000000 in
set_option maxRecDepth 20000 in
theorem e_perhaps (l : Launch) (G : GG) {ζ σ : Sg} {L : Nat} {t : TS} {w : Nat → Int32} (hby : byP ζ L) (h : rT ζ σ L t w) (p : Prop) [Decidable p] {u f g : Nat} {x y : Int32} (hx : x = bI p) (hy : y = nI f) (hf : f < 8) (hg : gX (nI f) = nI g) (hg2 : g < 100000) (hu : u < 8) (h0 : w 0 = nI (u + 1)) : CpI l G mX8_perhaps 2 shT [.ref (ad G 65), .int x, .int y] σ (bI ((mkG p (ζ 71) L u f g t w).1 = true)) (rE ζ L (mkG p (ζ 71) L u f g t w)) := by
  subst hx hy
  refine ct_intro (by decide) (Nat.le_of_ble_eq_true rfl) (fun X B R => ?_)
  show V X G shT σ [some (.ref (ad G 65)), some (.int (bI p)), some (.int (nI f))] [] 0
  refine r_iload_n (pc := 0) B dX8_perhaps_0 rfl ?_
  refine r_if_ne (pc := 1) B 6 dX8_perhaps_1 (by decide) (fun h1 => ?_) (fun h1 => ?_)
  · skip
    have hp : p := bI_n.mp h1
    refine r_aload_n (pc := 6) B dX8_perhaps_6 rfl ?_
    refine r_cVpv0 (pc := 7) B KX8_258 (e_ntT l G hby h) rfl rfl (by decide) (Nat.le_of_ble_eq_true rfl) dX8_perhaps_7 (fun ρ1 hA => ?_)
    refine r_aload_n (pc := 10) B dX8_perhaps_10 rfl ?_
    refine r_iconst (pc := 11) (x := 0) B dX8_perhaps_11 (by decide) ?_
    refine r_iload_n (pc := 12) B dX8_perhaps_12 rfl ?_
    refine r_cSi1 (pc := 13) B KX8_103 (e_greatestOf l G _ _ _) (by decide) (Nat.le_of_ble_eq_true rfl) dX8_perhaps_13 ?_
    rw [hg]
    refine r_cVi2 (pc := 16) B KX8_261 (e_isNumber l G _ (g := g) hA.1 rfl rfl hg2 hA.2.2.2.2) rfl rfl (by decide) (Nat.le_of_ble_eq_true rfl) dX8_perhaps_16 ?_
    refine r_if_ne (pc := 19) B 24 dX8_perhaps_19 (by decide) (fun h19 => ?_) (fun h19 => ?_)
    · skip
      have hok := bI_n.mp h19
      rw [if_pos hok]
      refine r_aload_n (pc := 24) B dX8_perhaps_24 rfl ?_
      refine r_getr (pc := 25) B FX8_7 rfl rfl dX8_perhaps_25 ?_
      refine r_aload_n (pc := 28) B dX8_perhaps_28 rfl ?_
      refine r_getr (pc := 29) B FX8_7 rfl rfl dX8_perhaps_29 ?_
      refine r_iconst (pc := 32) (x := 0) B dX8_perhaps_32 (by decide) ?_
      refine r_iald (pc := 33) B rfl (ix_of 0 rfl) dX8_perhaps_33 ?_
      rw [show ρ1 66 0 = nI (u + 1) by rw [hA.2.1]; exact h0]
      refine r_iconst (pc := 34) (x := 1) B dX8_perhaps_34 (by decide) ?_
      refine r_isub (pc := 35) B dX8_perhaps_35 ?_
      rw [nI_pred]
      refine r_iload_n (pc := 36) B dX8_perhaps_36 rfl ?_
      refine r_cSi2 (pc := 37) B KX8_70 (e_at l G _ _ (u := u) (i := f) rfl rfl hu hf) (by decide) (Nat.le_of_ble_eq_true rfl) dX8_perhaps_37 ?_
      refine r_aload_n (pc := 40) B dX8_perhaps_40 rfl ?_
      refine r_geti (pc := 41) B FX8_230 rfl rfl dX8_perhaps_41 ?_
      rw [hA.1.2.2.2.2.2.1]
      refine r_iast (pc := 44) B rfl (ix_nI (by omega) (by decide)) dX8_perhaps_44 ?_
      have hB := hA.put (53 + 8 * u + f) (nI (nx (ζ 71) L t).2.2.2)
      refine r_aload_n (pc := 45) B dX8_perhaps_45 rfl ?_
      refine r_cVpv0 (pc := 46) B KX8_258 (e_ntT l G hby hB) rfl rfl (by decide) (Nat.le_of_ble_eq_true rfl) dX8_perhaps_46 (fun ρ2 hC => ?_)
      refine r_iconst (pc := 49) (x := 1) B dX8_perhaps_49 (by decide) ?_
      exact r_zret (pc := 50) B R (by first | decide | exact bI_01 _) dX8_perhaps_50 ⟨by rw [mkG, if_pos hp, if_pos hok]; rfl, by rw [mkG, if_pos hp, if_pos hok]; exact rE_t hC⟩
    · skip
      have hno := bI_0.mp h19
      rw [if_neg hno]
      refine r_iconst (pc := 22) (x := 0) B dX8_perhaps_22 (by decide) ?_
      exact r_zret (pc := 23) B R (by first | decide | exact bI_01 _) dX8_perhaps_23 ⟨by rw [mkG, if_pos hp, if_neg hno]; rfl, by rw [mkG, if_pos hp, if_neg hno]; exact rE_f hA⟩
  · skip
    have hp : ¬ p := bI_0.mp h1
    refine r_iconst (pc := 4) (x := 1) B dX8_perhaps_4 (by decide) ?_
    exact r_zret (pc := 5) B R (by first | decide | exact bI_01 _) dX8_perhaps_5 ⟨by rw [mkG, if_neg hp]; rfl, by rw [mkG, if_neg hp]; exact rE_t h⟩

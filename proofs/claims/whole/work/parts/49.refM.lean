/-! streetHere -/
def stR (by1 : Nat → Int32) (L : Nat) (t : TS) (w : Nat → Int32) : RES := if wdP by1 L t 11 then wnF by1 L 0 t w else if wdP by1 L t 12 then wnF by1 L 1 t w else if wdP by1 L t 13 then wnF by1 L 2 t w else itS by1 L t w

set_option maxHeartbeats 4000000 in
set_option maxRecDepth 20000 in
theorem e_streetHere (l : Launch) (G : GG) {ζ σ : Sg} {L : Nat} {t : TS} {w : Nat → Int32} (hby : byP ζ L) (h : rT ζ σ L t w) : CpI l G mX8_streetHere 3 shT [.ref (ad G 65)] σ (bI ((stR (ζ 71) L t w).1 = true)) (rE ζ L (stR (ζ 71) L t w)) := by
  have w11 := @wd_11 σ L t
  rw [h.by] at w11
  have w12 := @wd_12 σ L t
  rw [h.by] at w12
  have w13 := @wd_13 σ L t
  rw [h.by] at w13
  have w14 := @wd_14 σ L t
  rw [h.by] at w14
  have w15 := @wd_15 σ L t
  rw [h.by] at w15
  have w16 := @wd_16 σ L t
  rw [h.by] at w16
  have w17 := @wd_17 σ L t
  rw [h.by] at w17
  refine ct_intro (by decide) (Nat.le_of_ble_eq_true rfl) (fun X B R => ?_)
  show V X G shT σ [some (.ref (ad G 65))] [] 0
  refine r_aload_n (pc := 0) B dX8_streetHere_0 rfl ?_
  refine r_bipush (pc := 1) (x := 108) B dX8_streetHere_1 (by decide) ?_
  refine r_bipush (pc := 3) (x := 101) B dX8_streetHere_3 (by decide) ?_
  refine r_bipush (pc := 5) (x := 102) B dX8_streetHere_5 (by decide) ?_
  refine r_bipush (pc := 7) (x := 116) B dX8_streetHere_7 (by decide) ?_
  refine r_cVi4 (pc := 9) B KX8_251 (e_isFour l G _ h.1 _ _ _ _) rfl rfl (by decide) (Nat.le_of_ble_eq_true rfl) dX8_streetHere_9 ?_
  refine r_if_eq (pc := 12) B 21 dX8_streetHere_12 (by decide) (fun h12 => ?_) (fun h12 => ?_)
  · skip
    have n11 : ¬ wdP (ζ 71) L t 11 := fun q => bI_0.mp h12 (w11.mp q)
    refine r_aload_n (pc := 21) B dX8_streetHere_21 rfl ?_
    refine r_bipush (pc := 22) (x := 114) B dX8_streetHere_22 (by decide) ?_
    refine r_bipush (pc := 24) (x := 105) B dX8_streetHere_24 (by decide) ?_
    refine r_bipush (pc := 26) (x := 103) B dX8_streetHere_26 (by decide) ?_
    refine r_bipush (pc := 28) (x := 104) B dX8_streetHere_28 (by decide) ?_
    refine r_bipush (pc := 30) (x := 116) B dX8_streetHere_30 (by decide) ?_
    refine r_cVi5 (pc := 32) B KX8_247 (e_isFive l G _ h.1 _ _ _ _ _) rfl rfl (by decide) (Nat.le_of_ble_eq_true rfl) dX8_streetHere_32 ?_
    refine r_if_eq (pc := 35) B 44 dX8_streetHere_35 (by decide) (fun h35 => ?_) (fun h35 => ?_)
    · skip
      have n12 : ¬ wdP (ζ 71) L t 12 := fun q => bI_0.mp h35 (w12.mp q)
      refine r_aload_n (pc := 44) B dX8_streetHere_44 rfl ?_
      refine r_bipush (pc := 45) (x := 98) B dX8_streetHere_45 (by decide) ?_
      refine r_bipush (pc := 47) (x := 101) B dX8_streetHere_47 (by decide) ?_
      refine r_bipush (pc := 49) (x := 108) B dX8_streetHere_49 (by decide) ?_
      refine r_bipush (pc := 51) (x := 111) B dX8_streetHere_51 (by decide) ?_
      refine r_bipush (pc := 53) (x := 119) B dX8_streetHere_53 (by decide) ?_
      refine r_cVi5 (pc := 55) B KX8_247 (e_isFive l G _ h.1 _ _ _ _ _) rfl rfl (by decide) (Nat.le_of_ble_eq_true rfl) dX8_streetHere_55 ?_
      refine r_if_eq (pc := 58) B 67 dX8_streetHere_58 (by decide) (fun h58 => ?_) (fun h58 => ?_)
      · skip
        have n13 : ¬ wdP (ζ 71) L t 13 := fun q => bI_0.mp h58 (w13.mp q)
        refine r_aload_n (pc := 67) B dX8_streetHere_67 rfl ?_
        refine r_bipush (pc := 68) (x := 114) B dX8_streetHere_68 (by decide) ?_
        refine r_bipush (pc := 70) (x := 111) B dX8_streetHere_70 (by decide) ?_
        refine r_bipush (pc := 72) (x := 111) B dX8_streetHere_72 (by decide) ?_
        refine r_bipush (pc := 74) (x := 102) B dX8_streetHere_74 (by decide) ?_
        refine r_cVi4 (pc := 76) B KX8_251 (e_isFour l G _ h.1 _ _ _ _) rfl rfl (by decide) (Nat.le_of_ble_eq_true rfl) dX8_streetHere_76 ?_
        refine r_if_eq (pc := 79) B 88 dX8_streetHere_79 (by decide) (fun h79 => ?_) (fun h79 => ?_)
        · skip
          have n14 : ¬ wdP (ζ 71) L t 14 := fun q => bI_0.mp h79 (w14.mp q)
          refine r_aload_n (pc := 88) B dX8_streetHere_88 rfl ?_
          refine r_bipush (pc := 89) (x := 111) B dX8_streetHere_89 (by decide) ?_
          refine r_bipush (pc := 91) (x := 112) B dX8_streetHere_91 (by decide) ?_
          refine r_bipush (pc := 93) (x := 101) B dX8_streetHere_93 (by decide) ?_
          refine r_bipush (pc := 95) (x := 110) B dX8_streetHere_95 (by decide) ?_
          refine r_cVi4 (pc := 97) B KX8_251 (e_isFour l G _ h.1 _ _ _ _) rfl rfl (by decide) (Nat.le_of_ble_eq_true rfl) dX8_streetHere_97 ?_
          refine r_if_eq (pc := 100) B 109 dX8_streetHere_100 (by decide) (fun h100 => ?_) (fun h100 => ?_)
          · skip
            have n15 : ¬ wdP (ζ 71) L t 15 := fun q => bI_0.mp h100 (w15.mp q)
            refine r_aload_n (pc := 109) B dX8_streetHere_109 rfl ?_
            refine r_bipush (pc := 110) (x := 114) B dX8_streetHere_110 (by decide) ?_
            refine r_bipush (pc := 112) (x := 97) B dX8_streetHere_112 (by decide) ?_
            refine r_bipush (pc := 114) (x := 105) B dX8_streetHere_114 (by decide) ?_
            refine r_bipush (pc := 116) (x := 110) B dX8_streetHere_116 (by decide) ?_
            refine r_cVi4 (pc := 118) B KX8_251 (e_isFour l G _ h.1 _ _ _ _) rfl rfl (by decide) (Nat.le_of_ble_eq_true rfl) dX8_streetHere_118 ?_
            refine r_if_eq (pc := 121) B 130 dX8_streetHere_121 (by decide) (fun h121 => ?_) (fun h121 => ?_)
            · skip
              have n16 : ¬ wdP (ζ 71) L t 16 := fun q => bI_0.mp h121 (w16.mp q)
              refine r_aload_n (pc := 130) B dX8_streetHere_130 rfl ?_
              refine r_bipush (pc := 131) (x := 103) B dX8_streetHere_131 (by decide) ?_
              refine r_bipush (pc := 133) (x := 117) B dX8_streetHere_133 (by decide) ?_
              refine r_bipush (pc := 135) (x := 115) B dX8_streetHere_135 (by decide) ?_
              refine r_bipush (pc := 137) (x := 116) B dX8_streetHere_137 (by decide) ?_
              refine r_cVi4 (pc := 139) B KX8_251 (e_isFour l G _ h.1 _ _ _ _) rfl rfl (by decide) (Nat.le_of_ble_eq_true rfl) dX8_streetHere_139 ?_
              refine r_if_eq (pc := 142) B 153 dX8_streetHere_142 (by decide) (fun h142 => ?_) (fun h142 => ?_)
              · skip
                have n17 : ¬ wdP (ζ 71) L t 17 := fun q => bI_0.mp h142 (w17.mp q)
                refine r_aload_n (pc := 153) B dX8_streetHere_153 rfl ?_
                refine r_cVi0 (pc := 154) B KX8_243 (e_fails l G _) rfl rfl (by decide) (Nat.le_of_ble_eq_true rfl) dX8_streetHere_154 ?_
                rw [h.1.2.2.2.1]
                exact r_zret (pc := 157) B R (by first | decide | exact bI_01 _) dX8_streetHere_157 (by first | exact ⟨by rw [stR, if_neg n11, if_neg n12, if_neg n13, itS, if_neg n14, if_neg n15, if_neg n16, if_pos y17], by rw [stR, if_neg n11, if_neg n12, if_neg n13, itS, if_neg n14, if_neg n15, if_neg n16, if_pos y17]; exact h1⟩ | exact ⟨by rw [stR, if_neg n11, if_neg n12, if_neg n13, itS, if_neg n14, if_neg n15, if_neg n16, if_neg n17]; rfl, by rw [stR, if_neg n11, if_neg n12, if_neg n13, itS, if_neg n14, if_neg n15, if_neg n16, if_neg n17]; exact rE_f h⟩)
              · skip
                have y17 : wdP (ζ 71) L t 17 := w17.mpr (bI_n.mp h142)
                refine r_aload_n (pc := 145) B dX8_streetHere_145 rfl ?_
                refine r_iconst (pc := 146) (x := 1) B dX8_streetHere_146 (by decide) ?_
                refine r_cVpi1 (pc := 147) B KX8_277 (e_weatherHere l G hby h (k := 1) rfl (by decide)) rfl rfl (by decide) (Nat.le_of_ble_eq_true rfl) dX8_streetHere_147 (fun ρ1 h1 => ?_)
                refine r_goto (pc := 150) B 157 dX8_streetHere_150 (by decide) ?_
                exact r_zret (pc := 157) B R (by first | decide | exact bI_01 _) dX8_streetHere_157 (by first | exact ⟨by rw [stR, if_neg n11, if_neg n12, if_neg n13, itS, if_neg n14, if_neg n15, if_neg n16, if_pos y17], by rw [stR, if_neg n11, if_neg n12, if_neg n13, itS, if_neg n14, if_neg n15, if_neg n16, if_pos y17]; exact h1⟩ | exact ⟨by rw [stR, if_neg n11, if_neg n12, if_neg n13, itS, if_neg n14, if_neg n15, if_neg n16, if_neg n17]; rfl, by rw [stR, if_neg n11, if_neg n12, if_neg n13, itS, if_neg n14, if_neg n15, if_neg n16, if_neg n17]; exact rE_f h⟩)
            · skip
              have y16 : wdP (ζ 71) L t 16 := w16.mpr (bI_n.mp h121)
              refine r_aload_n (pc := 124) B dX8_streetHere_124 rfl ?_
              refine r_iconst (pc := 125) (x := 0) B dX8_streetHere_125 (by decide) ?_
              refine r_cVpi1 (pc := 126) B KX8_277 (e_weatherHere l G hby h (k := 0) rfl (by decide)) rfl rfl (by decide) (Nat.le_of_ble_eq_true rfl) dX8_streetHere_126 (fun ρ1 h1 => ?_)
              exact r_zret (pc := 129) B R (by first | decide | exact bI_01 _) dX8_streetHere_129 ⟨by rw [stR, if_neg n11, if_neg n12, if_neg n13, itS, if_neg n14, if_neg n15, if_pos y16], by rw [stR, if_neg n11, if_neg n12, if_neg n13, itS, if_neg n14, if_neg n15, if_pos y16]; exact h1⟩
          · skip
            have y15 : wdP (ζ 71) L t 15 := w15.mpr (bI_n.mp h100)
            refine r_aload_n (pc := 103) B dX8_streetHere_103 rfl ?_
            refine r_iconst (pc := 104) (x := 0) B dX8_streetHere_104 (by decide) ?_
            refine r_cVpi1 (pc := 105) B KX8_274 (e_roofHere l G hby h 0) rfl rfl (by decide) (Nat.le_of_ble_eq_true rfl) dX8_streetHere_105 (fun ρ1 h1 => ?_)
            exact r_zret (pc := 108) B R (by first | decide | exact bI_01 _) dX8_streetHere_108 ⟨by rw [stR, if_neg n11, if_neg n12, if_neg n13, itS, if_neg n14, if_pos y15], by rw [stR, if_neg n11, if_neg n12, if_neg n13, itS, if_neg n14, if_pos y15]; exact h1⟩
        · skip
          have y14 : wdP (ζ 71) L t 14 := w14.mpr (bI_n.mp h79)
          refine r_aload_n (pc := 82) B dX8_streetHere_82 rfl ?_
          refine r_iconst (pc := 83) (x := 1) B dX8_streetHere_83 (by decide) ?_
          refine r_cVpi1 (pc := 84) B KX8_274 (e_roofHere l G hby h 1) rfl rfl (by decide) (Nat.le_of_ble_eq_true rfl) dX8_streetHere_84 (fun ρ1 h1 => ?_)
          exact r_zret (pc := 87) B R (by first | decide | exact bI_01 _) dX8_streetHere_87 ⟨by rw [stR, if_neg n11, if_neg n12, if_neg n13, itS, if_pos y14], by rw [stR, if_neg n11, if_neg n12, if_neg n13, itS, if_pos y14]; exact h1⟩
      · skip
        have y13 : wdP (ζ 71) L t 13 := w13.mpr (bI_n.mp h58)
        refine r_aload_n (pc := 61) B dX8_streetHere_61 rfl ?_
        refine r_iconst (pc := 62) (x := 2) B dX8_streetHere_62 (by decide) ?_
        refine r_cVpi1 (pc := 63) B KX8_271 (e_stepHere l G hby h (c := 2) rfl) rfl rfl (by decide) (Nat.le_of_ble_eq_true rfl) dX8_streetHere_63 (fun ρ1 h1 => ?_)
        exact r_zret (pc := 66) B R (by first | decide | exact bI_01 _) dX8_streetHere_66 ⟨by rw [stR, if_neg n11, if_neg n12, if_pos y13], by rw [stR, if_neg n11, if_neg n12, if_pos y13]; exact h1⟩
    · skip
      have y12 : wdP (ζ 71) L t 12 := w12.mpr (bI_n.mp h35)
      refine r_aload_n (pc := 38) B dX8_streetHere_38 rfl ?_
      refine r_iconst (pc := 39) (x := 1) B dX8_streetHere_39 (by decide) ?_
      refine r_cVpi1 (pc := 40) B KX8_271 (e_stepHere l G hby h (c := 1) rfl) rfl rfl (by decide) (Nat.le_of_ble_eq_true rfl) dX8_streetHere_40 (fun ρ1 h1 => ?_)
      exact r_zret (pc := 43) B R (by first | decide | exact bI_01 _) dX8_streetHere_43 ⟨by rw [stR, if_neg n11, if_pos y12], by rw [stR, if_neg n11, if_pos y12]; exact h1⟩
  · skip
    have y11 : wdP (ζ 71) L t 11 := w11.mpr (bI_n.mp h12)
    refine r_aload_n (pc := 15) B dX8_streetHere_15 rfl ?_
    refine r_iconst (pc := 16) (x := 0) B dX8_streetHere_16 (by decide) ?_
    refine r_cVpi1 (pc := 17) B KX8_271 (e_stepHere l G hby h (c := 0) rfl) rfl rfl (by decide) (Nat.le_of_ble_eq_true rfl) dX8_streetHere_17 (fun ρ1 h1 => ?_)
    exact r_zret (pc := 20) B R (by first | decide | exact bI_01 _) dX8_streetHere_20 ⟨by rw [stR, if_pos y11], by rw [stR, if_pos y11]; exact h1⟩

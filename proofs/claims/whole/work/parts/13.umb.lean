/-! small static tests -/
abbrev stepP (x : Int32) : Prop := ¬ x < 0 ∧ ¬ 16 ≤ x
abbrev withinP (v g : Int32) : Prop := ¬ v < 0 ∧ ¬ g < v

set_option maxHeartbeats 4000000 in
set_option maxRecDepth 20000 in
theorem c_isStep (l : Launch) (G : GG) (T : List Sh) (σ : Sg) (x : Int32) : CtI l G mX7_isStep 0 T [.int x] σ (bI (stepP x)) σ := by
  refine ct_intro (by decide) (Nat.le_of_ble_eq_true rfl) (fun X B R => ?_)
  show V X G T σ [some (.int x)] [] 0
  refine r_iload_n (pc := 0) B dX7_isStep_0 rfl ?_
  refine r_if_lt (pc := 1) B 14 dX7_isStep_1 (by decide) (fun h1 => ?_) (fun h1 => ?_)
  · skip
    refine r_iconst (pc := 14) (x := 0) B dX7_isStep_14 (by decide) ?_
    exact r_zret (pc := 15) B R (by decide) dX7_isStep_15 ⟨by grind [bI], rfl⟩
  · skip
    refine r_iload_n (pc := 4) B dX7_isStep_4 rfl ?_
    refine r_bipush (pc := 5) (x := 16) B dX7_isStep_5 (by decide) ?_
    refine r_icmp_ge (pc := 7) B 14 dX7_isStep_7 (by decide) (fun h7 => ?_) (fun h7 => ?_)
    · skip
      refine r_iconst (pc := 14) (x := 0) B dX7_isStep_14 (by decide) ?_
      exact r_zret (pc := 15) B R (by decide) dX7_isStep_15 ⟨by grind [bI], rfl⟩
    · skip
      refine r_iconst (pc := 10) (x := 1) B dX7_isStep_10 (by decide) ?_
      refine r_goto (pc := 11) B 15 dX7_isStep_11 (by decide) ?_
      exact r_zret (pc := 15) B R (by decide) dX7_isStep_15 ⟨by grind [bI], rfl⟩
set_option maxHeartbeats 4000000 in
set_option maxRecDepth 20000 in
theorem c_isWithin (l : Launch) (G : GG) (T : List Sh) (σ : Sg) (v g : Int32) : CtI l G mX7_isWithin 0 T [.int v, .int g] σ (bI (withinP v g)) σ := by
  refine ct_intro (by decide) (Nat.le_of_ble_eq_true rfl) (fun X B R => ?_)
  show V X G T σ [some (.int v), some (.int g)] [] 0
  refine r_iload_n (pc := 0) B dX7_isWithin_0 rfl ?_
  refine r_if_lt (pc := 1) B 13 dX7_isWithin_1 (by decide) (fun h1 => ?_) (fun h1 => ?_)
  · skip
    refine r_iconst (pc := 13) (x := 0) B dX7_isWithin_13 (by decide) ?_
    exact r_zret (pc := 14) B R (by decide) dX7_isWithin_14 ⟨by grind [bI], rfl⟩
  · skip
    refine r_iload_n (pc := 4) B dX7_isWithin_4 rfl ?_
    refine r_iload_n (pc := 5) B dX7_isWithin_5 rfl ?_
    refine r_icmp_gt (pc := 6) B 13 dX7_isWithin_6 (by decide) (fun h6 => ?_) (fun h6 => ?_)
    · skip
      refine r_iconst (pc := 13) (x := 0) B dX7_isWithin_13 (by decide) ?_
      exact r_zret (pc := 14) B R (by decide) dX7_isWithin_14 ⟨by grind [bI], rfl⟩
    · skip
      refine r_iconst (pc := 9) (x := 1) B dX7_isWithin_9 (by decide) ?_
      refine r_goto (pc := 10) B 14 dX7_isWithin_10 (by decide) ?_
      exact r_zret (pc := 14) B R (by decide) dX7_isWithin_14 ⟨by grind [bI], rfl⟩
/-! an umbrella by its eight numbers -/
def stiffF (u : Nat → Int32) : Int32 := if u 0 = 1 then mx 0 (5 * u 4 - 10) else if u 0 = 2 then 5 * u 4 + 15 else if u 0 = 3 then mx 0 (5 * u 4 + 15 - u 7 / 100) else if u 0 = 4 then mx 0 (5 * u 4 + 15 - u 7 / 100) / 2 else if u 0 = 5 then 5 else if u 0 = 6 then mx 0 (5 * u 4 - 10) / 2 else 5 * u 4

set_option maxHeartbeats 4000000 in
set_option maxRecDepth 20000 in
theorem c_stiff (l : Launch) (G : GG) (σ : Sg) {U : Nat} (hU : isU U) : CtI l G mX4_stiff 1 shT [.ref (ad G U)] σ (stiffF (σ U)) σ := by
  refine ct_intro (by decide) (Nat.le_of_ble_eq_true rfl) (fun X B R => ?_)
  show V X G shT σ [some (.ref (ad G U)), none, none, none, none] [] 0
  refine r_iconst (pc := 0) (x := 5) B dX4_stiff_0 (by decide) ?_
  refine r_aload_n (pc := 1) B dX4_stiff_1 rfl ?_
  refine r_geti (pc := 2) B FX4_24 (shU hU) rfl dX4_stiff_2 ?_
  refine r_imul (pc := 5) B dX4_stiff_5 ?_
  refine r_istore_1 (pc := 6) B dX4_stiff_6 (by decide) rfl ?_
  refine r_iconst (pc := 7) (x := 0) B dX4_stiff_7 (by decide) ?_
  refine r_iload_n (pc := 8) B dX4_stiff_8 rfl ?_
  refine r_bipush (pc := 9) (x := 10) B dX4_stiff_9 (by decide) ?_
  refine r_isub (pc := 11) B dX4_stiff_11 ?_
  refine r_max (pc := 12) B q311 ⟨q312, q11, q313⟩ (by decide) (Nat.le_of_ble_eq_true rfl) dX4_stiff_12 ?_
  refine r_istore_2 (pc := 15) B dX4_stiff_15 (by decide) rfl ?_
  refine r_iload_n (pc := 16) B dX4_stiff_16 rfl ?_
  refine r_bipush (pc := 17) (x := 15) B dX4_stiff_17 (by decide) ?_
  refine r_iadd (pc := 19) B dX4_stiff_19 ?_
  refine r_istore_3 (pc := 20) B dX4_stiff_20 (by decide) rfl ?_
  refine r_iconst (pc := 21) (x := 0) B dX4_stiff_21 (by decide) ?_
  refine r_iload_n (pc := 22) B dX4_stiff_22 rfl ?_
  refine r_aload_n (pc := 23) B dX4_stiff_23 rfl ?_
  refine r_geti (pc := 24) B FX4_33 (shU hU) rfl dX4_stiff_24 ?_
  refine r_bipush (pc := 27) (x := 100) B dX4_stiff_27 (by decide) ?_
  refine r_idiv (pc := 29) B (by decide) dX4_stiff_29 ?_
  refine r_isub (pc := 30) B dX4_stiff_30 ?_
  refine r_max (pc := 31) B q311 ⟨q312, q11, q313⟩ (by decide) (Nat.le_of_ble_eq_true rfl) dX4_stiff_31 ?_
  refine r_istore_4 (pc := 34) B dX4_stiff_34 (by decide) rfl ?_
  refine r_aload_n (pc := 36) B dX4_stiff_36 rfl ?_
  refine r_geti (pc := 37) B FX4_9 (shU hU) rfl dX4_stiff_37 ?_
  refine r_tsC (pc := 40) B 1 80 dX4_stiff_40 (by decide) (by decide) rfl (by decide) (fun h40_1 => ?_) (fun h40_1 => ?_)
  · skip
    refine r_iload_n (pc := 80) B dX4_stiff_80 rfl ?_
    exact r_iret (pc := 81) B R dX4_stiff_81 ⟨by grind [stiffF, mx], rfl⟩
  refine r_tsC (pc := 40) B 2 86 dX4_stiff_40 (by decide) (by decide) rfl (by decide) (fun h40_2 => ?_) (fun h40_2 => ?_)
  · skip
    refine r_iload_n (pc := 86) B dX4_stiff_86 rfl ?_
    exact r_iret (pc := 87) B R dX4_stiff_87 ⟨by grind [stiffF, mx], rfl⟩
  refine r_tsC (pc := 40) B 3 88 dX4_stiff_40 (by decide) (by decide) rfl (by decide) (fun h40_3 => ?_) (fun h40_3 => ?_)
  · skip
    refine r_iload (pc := 88) B dX4_stiff_88 rfl ?_
    exact r_iret (pc := 90) B R dX4_stiff_90 ⟨by grind [stiffF, mx], rfl⟩
  refine r_tsC (pc := 40) B 4 91 dX4_stiff_40 (by decide) (by decide) rfl (by decide) (fun h40_4 => ?_) (fun h40_4 => ?_)
  · skip
    refine r_iload (pc := 91) B dX4_stiff_91 rfl ?_
    refine r_iconst (pc := 93) (x := 2) B dX4_stiff_93 (by decide) ?_
    refine r_idiv (pc := 94) B (by decide) dX4_stiff_94 ?_
    exact r_iret (pc := 95) B R dX4_stiff_95 ⟨by grind [stiffF, mx], rfl⟩
  refine r_tsC (pc := 40) B 5 96 dX4_stiff_40 (by decide) (by decide) rfl (by decide) (fun h40_5 => ?_) (fun h40_5 => ?_)
  · skip
    refine r_iconst (pc := 96) (x := 5) B dX4_stiff_96 (by decide) ?_
    exact r_iret (pc := 97) B R dX4_stiff_97 ⟨by grind [stiffF, mx], rfl⟩
  refine r_tsC (pc := 40) B 6 82 dX4_stiff_40 (by decide) (by decide) rfl (by decide) (fun h40_6 => ?_) (fun h40_6 => ?_)
  · skip
    refine r_iload_n (pc := 82) B dX4_stiff_82 rfl ?_
    refine r_iconst (pc := 83) (x := 2) B dX4_stiff_83 (by decide) ?_
    refine r_idiv (pc := 84) B (by decide) dX4_stiff_84 ?_
    exact r_iret (pc := 85) B R dX4_stiff_85 ⟨by grind [stiffF, mx], rfl⟩
  refine r_tsD (pc := 40) B 98 dX4_stiff_40 (by have e0 := ts_in (c := 1) h40_1 rfl; have e1 := ts_in (c := 2) h40_2 rfl; have e2 := ts_in (c := 3) h40_3 rfl; have e3 := ts_in (c := 4) h40_4 rfl; have e4 := ts_in (c := 5) h40_5 rfl; have e5 := ts_in (c := 6) h40_6 rfl; omega) (by decide) ?_
  refine r_iload_n (pc := 98) B dX4_stiff_98 rfl ?_
  exact r_iret (pc := 99) B R dX4_stiff_99 ⟨by grind [stiffF, mx], rfl⟩

/-! spots, sheets, images of the reference -/
abbrev unP (k a : Int32) : Prop := a = 0 ∨ k = a ∨ (a = 2 ∧ (k = 3 ∨ k = 4)) ∨ (a = 3 ∧ k = 4) ∨ (a = 1 ∧ k = 6)
def spP (w : Nat → Int32) (N : Nat) : Prop := ∀ s, s < 10 → w (117 + s) = -1 ∨ ∃ u, u < N ∧ w (117 + s) = nI u

set_option maxHeartbeats 4000000 in
set_option maxRecDepth 20000 in
theorem e_hold (l : Launch) (G : GG) (σ : Sg) (x y : Int32) : Ct l G mX8_hold 1 shT [.ref (ad G 65), .int x, .int y] σ (fun r τ => (¬ (withinP x 9 ∧ (y = -1 ∨ umR σ y)) ∧ gQ σ 0 r τ) ∨ ∃ s, s < 10 ∧ x = nI s ∧ (y = -1 ∨ umR σ y) ∧ r = some (.int 1) ∧ τ = sR σ (upd (σ 66) (117 + s) y)) := by
  refine ct_intro (by decide) (Nat.le_of_ble_eq_true rfl) (fun X B R => ?_)
  show V X G shT σ [some (.ref (ad G 65)), some (.int x), some (.int y)] [] 0
  refine r_iload_n (pc := 0) B dX8_hold_0 rfl ?_
  refine r_i2l (pc := 1) B dX8_hold_1 ?_
  refine r_lconst (pc := 2) (x := 0) B dX8_hold_2 rfl ?_
  refine r_ldc2_w (pc := 3) B q1188 dX8_hold_3 ?_
  refine r_cSi3 (pc := 6) B KX8_49 (e_isIn l G _ _ (v := x) (a := 0) (b := 9) rfl rfl rfl) (by decide) (Nat.le_of_ble_eq_true rfl) dX8_hold_6 ?_
  refine r_if_eq (pc := 9) B 25 dX8_hold_9 (by decide) (fun h9 => ?_) (fun h9 => ?_)
  · skip
    refine r_aload_n (pc := 25) B dX8_hold_25 rfl ?_
    refine r_ldc (pc := 26) B q836 dX8_hold_26 ?_
    refine r_cVi1 (pc := 28) B KX8_39 (e_finds l G _ (j := 0) rfl (by decide)) rfl rfl (by decide) (Nat.le_of_ble_eq_true rfl) dX8_hold_28 ?_
    exact r_iret (pc := 31) B R dX8_hold_31 (Or.inl ⟨by first | exact fun q => bI_0.mp h9 q.1 | exact fun q => q.2.elim h14 (fun z => bI_0.mp h22 z), rfl, rfl⟩)
  · skip
    obtain ⟨s, hs, hx⟩ := wi_nI (g := 9) (by decide) (bI_n.mp h9)
    refine r_iload_n (pc := 12) B dX8_hold_12 rfl ?_
    refine r_iconst (pc := 13) (x := (-1)) B dX8_hold_13 (by decide) ?_
    refine r_icmp_eq (pc := 14) B 32 dX8_hold_14 (by decide) (fun h14 => ?_) (fun h14 => ?_)
    · skip
      refine r_aload_n (pc := 32) B dX8_hold_32 rfl ?_
      refine r_getr (pc := 33) B FX8_7 rfl rfl dX8_hold_33 ?_
      refine r_bipush (pc := 36) (x := 117) B dX8_hold_36 (by decide) ?_
      refine r_iload_n (pc := 38) B dX8_hold_38 rfl ?_
      refine r_iadd (pc := 39) B dX8_hold_39 ?_
      refine r_iload_n (pc := 40) B dX8_hold_40 rfl ?_
      refine r_iast (pc := 41) B rfl (ix_eq (by rw [hx]; exact pl_nI (n := 117) rfl) (by omega) (by decide)) dX8_hold_41 ?_
      rw [st2_66]
      refine r_iconst (pc := 42) (x := 1) B dX8_hold_42 (by decide) ?_
      exact r_iret (pc := 43) B R dX8_hold_43 (Or.inr ⟨s, by omega, hx, by first | exact Or.inl h14 | exact Or.inr (bI_n.mp h22), rfl, rfl⟩)
    · skip
      refine r_aload_n (pc := 17) B dX8_hold_17 rfl ?_
      refine r_iload_n (pc := 18) B dX8_hold_18 rfl ?_
      refine r_cVi1 (pc := 19) B KX8_89 (e_isUmbrella l G _ _) rfl rfl (by decide) (Nat.le_of_ble_eq_true rfl) dX8_hold_19 ?_
      refine r_if_ne (pc := 22) B 32 dX8_hold_22 (by decide) (fun h22 => ?_) (fun h22 => ?_)
      · skip
        refine r_aload_n (pc := 32) B dX8_hold_32 rfl ?_
        refine r_getr (pc := 33) B FX8_7 rfl rfl dX8_hold_33 ?_
        refine r_bipush (pc := 36) (x := 117) B dX8_hold_36 (by decide) ?_
        refine r_iload_n (pc := 38) B dX8_hold_38 rfl ?_
        refine r_iadd (pc := 39) B dX8_hold_39 ?_
        refine r_iload_n (pc := 40) B dX8_hold_40 rfl ?_
        refine r_iast (pc := 41) B rfl (ix_eq (by rw [hx]; exact pl_nI (n := 117) rfl) (by omega) (by decide)) dX8_hold_41 ?_
        rw [st2_66]
        refine r_iconst (pc := 42) (x := 1) B dX8_hold_42 (by decide) ?_
        exact r_iret (pc := 43) B R dX8_hold_43 (Or.inr ⟨s, by omega, hx, by first | exact Or.inl h14 | exact Or.inr (bI_n.mp h22), rfl, rfl⟩)
      · skip
        refine r_aload_n (pc := 25) B dX8_hold_25 rfl ?_
        refine r_ldc (pc := 26) B q836 dX8_hold_26 ?_
        refine r_cVi1 (pc := 28) B KX8_39 (e_finds l G _ (j := 0) rfl (by decide)) rfl rfl (by decide) (Nat.le_of_ble_eq_true rfl) dX8_hold_28 ?_
        exact r_iret (pc := 31) B R dX8_hold_31 (Or.inl ⟨by first | exact fun q => bI_0.mp h9 q.1 | exact fun q => q.2.elim h14 (fun z => bI_0.mp h22 z), rfl, rfl⟩)
set_option maxHeartbeats 4000000 in
set_option maxRecDepth 20000 in
theorem e_as (l : Launch) (G : GG) (σ : Sg) {N : Nat} (hN8 : N ≤ 8) (hN : σ 66 0 = nI N) (hS : spP (σ 66) N) (x y : Int32) : Ct l G mX8_as 1 shT [.ref (ad G 65), .int x, .int y] σ (fun r τ => (¬ (withinP x 9 ∧ withinP y 6) ∧ gQ σ 0 r τ) ∨ ∃ s, s < 10 ∧ x = nI s ∧ withinP y 6 ∧ ((σ 66 (117 + s) = -1 ∧ gQ σ 5 r τ) ∨ ∃ u, u < N ∧ σ 66 (117 + s) = nI u ∧ ((unP (um (σ 66) u 0) y ∧ r = some (.int (nI u)) ∧ τ = σ) ∨ (¬ unP (um (σ 66) u 0) y ∧ gQ σ 2 r τ)))) := by
  refine ct_intro (by decide) (Nat.le_of_ble_eq_true rfl) (fun X B R => ?_)
  show V X G shT σ [some (.ref (ad G 65)), some (.int x), some (.int y), none] [] 0
  refine r_iload_n (pc := 0) B dX8_as_0 rfl ?_
  refine r_i2l (pc := 1) B dX8_as_1 ?_
  refine r_lconst (pc := 2) (x := 0) B dX8_as_2 rfl ?_
  refine r_ldc2_w (pc := 3) B q1188 dX8_as_3 ?_
  refine r_cSi3 (pc := 6) B KX8_49 (e_isIn l G _ _ (v := x) (a := 0) (b := 9) rfl rfl rfl) (by decide) (Nat.le_of_ble_eq_true rfl) dX8_as_6 ?_
  refine r_if_eq (pc := 9) B 24 dX8_as_9 (by decide) (fun h9 => ?_) (fun h9 => ?_)
  · skip
    refine r_aload_n (pc := 24) B dX8_as_24 rfl ?_
    refine r_ldc (pc := 25) B q836 dX8_as_25 ?_
    refine r_cVi1 (pc := 27) B KX8_39 (e_finds l G _ (j := 0) rfl (by decide)) rfl rfl (by decide) (Nat.le_of_ble_eq_true rfl) dX8_as_27 ?_
    exact r_iret (pc := 30) B R dX8_as_30 (Or.inl ⟨by first | exact fun q => bI_0.mp h9 q.1 | exact fun q => bI_0.mp h21 q.2, rfl, rfl⟩)
  · skip
    obtain ⟨s, hs, hx⟩ := wi_nI (g := 9) (by decide) (bI_n.mp h9)
    refine r_iload_n (pc := 12) B dX8_as_12 rfl ?_
    refine r_i2l (pc := 13) B dX8_as_13 ?_
    refine r_lconst (pc := 14) (x := 0) B dX8_as_14 rfl ?_
    refine r_ldc2_w (pc := 15) B q870 dX8_as_15 ?_
    refine r_cSi3 (pc := 18) B KX8_49 (e_isIn l G _ _ (v := y) (a := 0) (b := 6) rfl rfl rfl) (by decide) (Nat.le_of_ble_eq_true rfl) dX8_as_18 ?_
    refine r_if_ne (pc := 21) B 31 dX8_as_21 (by decide) (fun h21 => ?_) (fun h21 => ?_)
    · skip
      refine r_aload_n (pc := 31) B dX8_as_31 rfl ?_
      refine r_getr (pc := 32) B FX8_7 rfl rfl dX8_as_32 ?_
      refine r_bipush (pc := 35) (x := 117) B dX8_as_35 (by decide) ?_
      refine r_iload_n (pc := 37) B dX8_as_37 rfl ?_
      refine r_iadd (pc := 38) B dX8_as_38 ?_
      refine r_iald (pc := 39) B rfl (ix_eq (by rw [hx]; exact pl_nI (n := 117) rfl) (by omega) (by decide)) dX8_as_39 ?_
      refine r_istore_3 (pc := 40) B dX8_as_40 (by decide) rfl ?_
      refine r_iload_n (pc := 41) B dX8_as_41 rfl ?_
      refine r_if_ge (pc := 42) B 53 dX8_as_42 (by decide) (fun h42 => ?_) (fun h42 => ?_)
      · skip
        obtain ⟨u, hu, hu2⟩ : ∃ u, u < N ∧ σ 66 (117 + s) = nI u := (hS s (by omega)).elim (fun q => absurd h42 (by rw [q]; decide)) id
        refine r_aload_n (pc := 53) B dX8_as_53 rfl ?_
        refine r_iload_n (pc := 54) B dX8_as_54 rfl ?_
        refine r_iconst (pc := 55) (x := 0) B dX8_as_55 (by decide) ?_
        refine r_cVi2 (pc := 56) B KX8_59 (e_its l G _ (u := u) (i := 0) hu2 rfl (by omega) (by decide)) rfl rfl (by decide) (Nat.le_of_ble_eq_true rfl) dX8_as_56 ?_
        refine r_iload_n (pc := 59) B dX8_as_59 rfl ?_
        refine r_cSi2 (pc := 60) B KX8_292 (e_isUnder l G _ _ _ _) (by decide) (Nat.le_of_ble_eq_true rfl) dX8_as_60 ?_
        refine r_if_eq (pc := 63) B 70 dX8_as_63 (by decide) (fun h63 => ?_) (fun h63 => ?_)
        · skip
          refine r_aload_n (pc := 70) B dX8_as_70 rfl ?_
          refine r_ldc_w (pc := 71) B q1196 dX8_as_71 ?_
          refine r_cVi1 (pc := 74) B KX8_39 (e_finds l G _ (j := 2) rfl (by decide)) rfl rfl (by decide) (Nat.le_of_ble_eq_true rfl) dX8_as_74 ?_
          exact r_iret (pc := 77) B R dX8_as_77 (Or.inr ⟨s, by omega, hx, bI_n.mp h21, Or.inr ⟨u, hu, hu2, by first | exact Or.inl ⟨bI_n.mp h63, by rw [hu2], rfl⟩ | exact Or.inr ⟨bI_0.mp h63, rfl, rfl⟩⟩⟩)
        · skip
          refine r_iload_n (pc := 66) B dX8_as_66 rfl ?_
          refine r_goto (pc := 67) B 77 dX8_as_67 (by decide) ?_
          exact r_iret (pc := 77) B R dX8_as_77 (Or.inr ⟨s, by omega, hx, bI_n.mp h21, Or.inr ⟨u, hu, hu2, by first | exact Or.inl ⟨bI_n.mp h63, by rw [hu2], rfl⟩ | exact Or.inr ⟨bI_0.mp h63, rfl, rfl⟩⟩⟩)
      · skip
        have hm1 : σ 66 (117 + s) = -1 := (hS s (by omega)).elim id (fun ⟨u, u1, u2⟩ => absurd (by rw [u2]; exact Int32.not_lt.mp (nI_pos (by omega))) h42)
        refine r_aload_n (pc := 45) B dX8_as_45 rfl ?_
        refine r_ldc_w (pc := 46) B q1062 dX8_as_46 ?_
        refine r_cVi1 (pc := 49) B KX8_39 (e_finds l G _ (j := 5) rfl (by decide)) rfl rfl (by decide) (Nat.le_of_ble_eq_true rfl) dX8_as_49 ?_
        exact r_iret (pc := 52) B R dX8_as_52 (Or.inr ⟨s, by omega, hx, bI_n.mp h21, Or.inl ⟨hm1, rfl, rfl⟩⟩)
    · skip
      refine r_aload_n (pc := 24) B dX8_as_24 rfl ?_
      refine r_ldc (pc := 25) B q836 dX8_as_25 ?_
      refine r_cVi1 (pc := 27) B KX8_39 (e_finds l G _ (j := 0) rfl (by decide)) rfl rfl (by decide) (Nat.le_of_ble_eq_true rfl) dX8_as_27 ?_
      exact r_iret (pc := 30) B R dX8_as_30 (Or.inl ⟨by first | exact fun q => bI_0.mp h9 q.1 | exact fun q => bI_0.mp h21 q.2, rfl, rfl⟩)
def clS (σ : Sg) (s i : Nat) : Sg := fun k a => if k = 74 ∧ 40 * s ≤ a ∧ a < 40 * s + i then 0 else σ k a
theorem clS_0 (σ : Sg) (s : Nat) : clS σ s 0 = σ := by funext k a; unfold clS; rw [if_neg (by omega)]
theorem clS_s (σ : Sg) (s i : Nat) : st2 (clS σ s i) 74 (40 * s + i) 0 = clS σ s (i + 1) := by funext k a; simp only [st2, clS]; grind
def shF (σ : Sg) (s : Nat) (bt n : Int32) : Sg := clS (st2 (st2 σ 72 s (if bt = 0 then -1 else bt)) 73 s (if bt = 0 then 0 else n)) s 40

set_option maxHeartbeats 4000000 in
set_option maxRecDepth 20000 in
theorem e_sheet (l : Launch) (G : GG) (σ : Sg) (x bt n : Int32) : Ct l G mX8_sheet 1 shT [.ref (ad G 65), .int x, .int bt, .int n] σ (fun r τ => (¬ (shP x ∧ (bt = 0 ∨ bt = 8 ∨ bt = 16 ∨ bt = 32)) ∧ gQ σ 0 r τ) ∨ (shP x ∧ (bt = 0 ∨ bt = 8 ∨ bt = 16 ∨ bt = 32) ∧ ((n < 0 ∧ gQ σ 6 r τ) ∨ (¬ n < 0 ∧ ¬ n ≤ 40 ∧ gQ σ 0 r τ) ∨ ∃ s m, s < 4 ∧ x = nI s ∧ m ≤ 40 ∧ n = nI m ∧ r = some (.int (if bt = 0 then 0 else n)) ∧ τ = shF σ s bt n))) := by
  refine ct_intro (by decide) (Nat.le_of_ble_eq_true rfl) (fun X B R => ?_)
  show V X G shT σ [some (.ref (ad G 65)), some (.int x), some (.int bt), some (.int n), none] [] 0
  have hJ36 : shP x → (bt = 0 ∨ bt = 8 ∨ bt = 16 ∨ bt = 32) → V X G shT σ [some (.ref (ad G 65)), some (.int x), some (.int bt), some (.int n), none] [] 36 := by
    intro hsh hbt
    obtain ⟨s, hs1, hs2⟩ := sh_nI hsh
    refine r_iload_n (pc := 36) B dX8_sheet_36 rfl ?_
    refine r_if_ge (pc := 37) B 48 dX8_sheet_37 (by decide) (fun h37 => ?_) (fun h37 => ?_)
    · skip
      refine r_iload_n (pc := 48) B dX8_sheet_48 rfl ?_
      refine r_bipush (pc := 49) (x := 40) B dX8_sheet_49 (by decide) ?_
      refine r_icmp_le (pc := 51) B 61 dX8_sheet_51 (by decide) (fun h51 => ?_) (fun h51 => ?_)
      · skip
        obtain ⟨m, hm1, hm2⟩ : ∃ m, m ≤ 40 ∧ n = nI m := by
          obtain ⟨m, h9, rfl⟩ := nI_of (x := n) (Int32.not_lt.mpr h37)
          exact ⟨m, (nI_leI (b := 40) h9 (by omega)).mp h51, rfl⟩
        refine r_aload_n (pc := 61) B dX8_sheet_61 rfl ?_
        refine r_getr (pc := 62) B FX8_28 rfl rfl dX8_sheet_62 ?_
        refine r_iload_n (pc := 65) B dX8_sheet_65 rfl ?_
        have hJ75 : ∀ v : Int32, v = (if bt = 0 then -1 else bt) → V X G shT σ [some (.ref (ad G 65)), some (.int x), some (.int bt), some (.int n), none] [.int v, .int x, .ref (ad G 72)] 75 := by
          intro v hv
          refine r_iast (pc := 75) B rfl (ix_eq hs2 hs1 (by decide)) dX8_sheet_75 ?_
          rw [hv]
          refine r_aload_n (pc := 76) B dX8_sheet_76 rfl ?_
          refine r_getr (pc := 77) B FX8_31 rfl rfl dX8_sheet_77 ?_
          refine r_iload_n (pc := 80) B dX8_sheet_80 rfl ?_
          have hJ90 : ∀ v : Int32, v = (if bt = 0 then 0 else n) → V X G shT (st2 σ 72 s (if bt = 0 then -1 else bt)) [some (.ref (ad G 65)), some (.int x), some (.int bt), some (.int n), none] [.int v, .int x, .ref (ad G 73)] 90 := by
            intro v hv
            refine r_iast (pc := 90) B rfl (ix_eq hs2 hs1 (by decide)) dX8_sheet_90 ?_
            rw [hv, ← clS_0 (st2 (st2 σ 72 s (if bt = 0 then -1 else bt)) 73 s (if bt = 0 then 0 else n)) s]
            refine r_iconst (pc := 91) (x := 0) B dX8_sheet_91 (by decide) ?_
            refine r_istore_4 (pc := 92) B dX8_sheet_92 (by decide) rfl ?_
            have hL94 : ∀ (p i : Nat), i ≤ 40 → 41 ≤ i + p → V X G shT (clS (st2 (st2 σ 72 s (if bt = 0 then -1 else bt)) 73 s (if bt = 0 then 0 else n)) s i) [some (.ref (ad G 65)), some (.int x), some (.int bt), some (.int n), some (.int (nI i))] [] 94 := by
              intro p
              induction p with
              | zero => intro i h1 h2; omega
              | succ p ih =>
                intro i hi hp
                refine r_iload (pc := 94) B dX8_sheet_94 rfl ?_
                refine r_bipush (pc := 96) (x := 40) B dX8_sheet_96 (by decide) ?_
                refine r_icmp_ge (pc := 98) B 120 dX8_sheet_98 (by decide) (fun h98 => ?_) (fun h98 => ?_)
                · skip
                  have eN : i = 40 := by have := nI_ge_of (n := 40) (by omega) (by omega) h98; omega
                  subst eN
                  refine r_aload_n (pc := 120) B dX8_sheet_120 rfl ?_
                  refine r_getr (pc := 121) B FX8_31 rfl rfl dX8_sheet_121 ?_
                  refine r_iload_n (pc := 124) B dX8_sheet_124 rfl ?_
                  refine r_iald (pc := 125) B rfl (ix_eq hs2 hs1 (by decide)) dX8_sheet_125 ?_
                  exact r_iret (pc := 126) B R dX8_sheet_126 (Or.inr ⟨hsh, hbt, Or.inr (Or.inr ⟨s, m, hs1, hs2, hm1, hm2, by simp [clS, st2], rfl⟩)⟩)
                · skip
                  have hiN : i < 40 := nI_lt_of (n := 40) (by omega) (by omega) h98
                  refine r_aload_n (pc := 101) B dX8_sheet_101 rfl ?_
                  refine r_getr (pc := 102) B FX8_34 rfl rfl dX8_sheet_102 ?_
                  refine r_bipush (pc := 105) (x := 40) B dX8_sheet_105 (by decide) ?_
                  refine r_iload_n (pc := 107) B dX8_sheet_107 rfl ?_
                  refine r_imul (pc := 108) B dX8_sheet_108 ?_
                  refine r_iload (pc := 109) B dX8_sheet_109 rfl ?_
                  refine r_iadd (pc := 111) B dX8_sheet_111 ?_
                  refine r_iconst (pc := 112) (x := 0) B dX8_sheet_112 (by decide) ?_
                  refine r_iast (pc := 113) B rfl (ix_eq (by rw [hs2]; exact nx_nI s hs1 i hiN) (by omega) (by decide)) dX8_sheet_113 ?_
                  rw [clS_s]
                  refine r_iinc_4 (pc := 114) (y := _ + 1) B dX8_sheet_114 rfl (by decide) rfl ?_
                  refine r_goto (pc := 117) B 94 dX8_sheet_117 (by decide) ?_
                  rw [nI_1]
                  exact ih (i + 1) hiN (by omega)
            exact hL94 41 0 (by omega) (by omega)
          refine r_iload_n (pc := 81) B dX8_sheet_81 rfl ?_
          refine r_if_ne (pc := 82) B 89 dX8_sheet_82 (by decide) (fun h82 => ?_) (fun h82 => ?_)
          · skip
            refine r_iload_n (pc := 89) B dX8_sheet_89 rfl ?_
            exact hJ90 _ (by first | rw [if_neg h82] | rw [if_pos h82])
          · skip
            refine r_iconst (pc := 85) (x := 0) B dX8_sheet_85 (by decide) ?_
            refine r_goto (pc := 86) B 90 dX8_sheet_86 (by decide) ?_
            exact hJ90 _ (by first | rw [if_neg h82] | rw [if_pos h82])
        refine r_iload_n (pc := 66) B dX8_sheet_66 rfl ?_
        refine r_if_ne (pc := 67) B 74 dX8_sheet_67 (by decide) (fun h67 => ?_) (fun h67 => ?_)
        · skip
          refine r_iload_n (pc := 74) B dX8_sheet_74 rfl ?_
          exact hJ75 _ (by first | rw [if_neg h67] | rw [if_pos h67])
        · skip
          refine r_iconst (pc := 70) (x := (-1)) B dX8_sheet_70 (by decide) ?_
          refine r_goto (pc := 71) B 75 dX8_sheet_71 (by decide) ?_
          exact hJ75 _ (by first | rw [if_neg h67] | rw [if_pos h67])
      · skip
        refine r_aload_n (pc := 54) B dX8_sheet_54 rfl ?_
        refine r_ldc (pc := 55) B q836 dX8_sheet_55 ?_
        refine r_cVi1 (pc := 57) B KX8_39 (e_finds l G _ (j := 0) rfl (by decide)) rfl rfl (by decide) (Nat.le_of_ble_eq_true rfl) dX8_sheet_57 ?_
        exact r_iret (pc := 60) B R dX8_sheet_60 (Or.inr ⟨hsh, hbt, Or.inr (Or.inl ⟨Int32.not_lt.mpr h37, h51, rfl, rfl⟩)⟩)
    · skip
      refine r_aload_n (pc := 40) B dX8_sheet_40 rfl ?_
      refine r_ldc_w (pc := 41) B q1201 dX8_sheet_41 ?_
      refine r_cVi1 (pc := 44) B KX8_39 (e_finds l G _ (j := 6) rfl (by decide)) rfl rfl (by decide) (Nat.le_of_ble_eq_true rfl) dX8_sheet_44 ?_
      exact r_iret (pc := 47) B R dX8_sheet_47 (Or.inr ⟨hsh, hbt, Or.inl ⟨Int32.not_le.mp h37, rfl, rfl⟩⟩)
  refine r_iload_n (pc := 0) B dX8_sheet_0 rfl ?_
  refine r_cSi1 (pc := 1) B KX8_296 (e_isSheet l G _ _ _) (by decide) (Nat.le_of_ble_eq_true rfl) dX8_sheet_1 ?_
  refine r_if_eq (pc := 4) B 29 dX8_sheet_4 (by decide) (fun h4 => ?_) (fun h4 => ?_)
  · skip
    refine r_aload_n (pc := 29) B dX8_sheet_29 rfl ?_
    refine r_ldc (pc := 30) B q836 dX8_sheet_30 ?_
    refine r_cVi1 (pc := 32) B KX8_39 (e_finds l G _ (j := 0) rfl (by decide)) rfl rfl (by decide) (Nat.le_of_ble_eq_true rfl) dX8_sheet_32 ?_
    exact r_iret (pc := 35) B R dX8_sheet_35 (Or.inl ⟨by first | exact fun q => bI_0.mp h4 q.1 | exact fun q => q.2.elim h8 (fun z => z.elim h14 (fun z => z.elim h20 h26)), rfl, rfl⟩)
  · skip
    refine r_iload_n (pc := 7) B dX8_sheet_7 rfl ?_
    refine r_if_eq (pc := 8) B 36 dX8_sheet_8 (by decide) (fun h8 => ?_) (fun h8 => ?_)
    · skip
      exact hJ36 (bI_n.mp h4) (by first | exact Or.inl h8 | exact Or.inr (Or.inl h14) | exact Or.inr (Or.inr (Or.inl h20)) | exact Or.inr (Or.inr (Or.inr h26)))
    · skip
      refine r_iload_n (pc := 11) B dX8_sheet_11 rfl ?_
      refine r_bipush (pc := 12) (x := 8) B dX8_sheet_12 (by decide) ?_
      refine r_icmp_eq (pc := 14) B 36 dX8_sheet_14 (by decide) (fun h14 => ?_) (fun h14 => ?_)
      · skip
        exact hJ36 (bI_n.mp h4) (by first | exact Or.inl h8 | exact Or.inr (Or.inl h14) | exact Or.inr (Or.inr (Or.inl h20)) | exact Or.inr (Or.inr (Or.inr h26)))
      · skip
        refine r_iload_n (pc := 17) B dX8_sheet_17 rfl ?_
        refine r_bipush (pc := 18) (x := 16) B dX8_sheet_18 (by decide) ?_
        refine r_icmp_eq (pc := 20) B 36 dX8_sheet_20 (by decide) (fun h20 => ?_) (fun h20 => ?_)
        · skip
          exact hJ36 (bI_n.mp h4) (by first | exact Or.inl h8 | exact Or.inr (Or.inl h14) | exact Or.inr (Or.inr (Or.inl h20)) | exact Or.inr (Or.inr (Or.inr h26)))
        · skip
          refine r_iload_n (pc := 23) B dX8_sheet_23 rfl ?_
          refine r_bipush (pc := 24) (x := 32) B dX8_sheet_24 (by decide) ?_
          refine r_icmp_eq (pc := 26) B 36 dX8_sheet_26 (by decide) (fun h26 => ?_) (fun h26 => ?_)
          · skip
            exact hJ36 (bI_n.mp h4) (by first | exact Or.inl h8 | exact Or.inr (Or.inl h14) | exact Or.inr (Or.inr (Or.inl h20)) | exact Or.inr (Or.inr (Or.inr h26)))
          · skip
            refine r_aload_n (pc := 29) B dX8_sheet_29 rfl ?_
            refine r_ldc (pc := 30) B q836 dX8_sheet_30 ?_
            refine r_cVi1 (pc := 32) B KX8_39 (e_finds l G _ (j := 0) rfl (by decide)) rfl rfl (by decide) (Nat.le_of_ble_eq_true rfl) dX8_sheet_32 ?_
            exact r_iret (pc := 35) B R dX8_sheet_35 (Or.inl ⟨by first | exact fun q => bI_0.mp h4 q.1 | exact fun q => q.2.elim h8 (fun z => z.elim h14 (fun z => z.elim h20 h26)), rfl, rfl⟩)
theorem wr_iff {i : Int32} {m : Nat} (hm : m ≤ 40) : (¬ i < 0 ∧ ¬ (nI m - 1) < i) ↔ ∃ k, k < m ∧ i = nI k := by
  constructor
  · intro h
    obtain ⟨k, hk, rfl⟩ := nI_of h.1
    refine ⟨k, ?_, rfl⟩
    cases m with
    | zero => exact absurd (show nI 0 - 1 < nI k from Int32.lt_of_lt_of_le (show nI 0 - 1 < 0 by decide) (Int32.not_lt.mp h.1)) h.2
    | succ m =>
      rw [← nI_1, Int32.add_sub_cancel] at h
      rcases Nat.lt_or_ge k (m + 1) with q | q
      · exact q
      · exact absurd ((nI_ltI (by omega) hk).mpr (by omega)) h.2
  · rintro ⟨k, hk, rfl⟩
    refine ⟨nI_pos (by omega), ?_⟩
    cases m with
    | zero => omega
    | succ m => rw [← nI_1, Int32.add_sub_cancel]; exact fun q => by have := (nI_ltI (by omega) (by omega)).mp q; omega

set_option maxHeartbeats 4000000 in
set_option maxRecDepth 20000 in
theorem e_write (l : Launch) (G : GG) (σ : Sg) (hz : szR σ) (x i v : Int32) : Ct l G mX8_write 1 shT [.ref (ad G 65), .int x, .int i, .int v] σ (fun r τ => (¬ shP x ∧ gQ σ 0 r τ) ∨ ∃ s m, s < 4 ∧ x = nI s ∧ σ 73 s = nI m ∧ m ≤ 40 ∧ ((σ 72 s < 0 ∧ gQ σ 5 r τ) ∨ (¬ σ 72 s < 0 ∧ ¬ (∃ k, k < m ∧ i = nI k) ∧ gQ σ 0 r τ) ∨ (¬ σ 72 s < 0 ∧ ∃ k, k < m ∧ i = nI k ∧ r = some (.int 1) ∧ τ = st2 σ 74 (40 * s + k) (putF (σ 72 s) v)))) := by
  refine ct_intro (by decide) (Nat.le_of_ble_eq_true rfl) (fun X B R => ?_)
  show V X G shT σ [some (.ref (ad G 65)), some (.int x), some (.int i), some (.int v)] [] 0
  refine r_iload_n (pc := 0) B dX8_write_0 rfl ?_
  refine r_cSi1 (pc := 1) B KX8_296 (e_isSheet l G _ _ _) (by decide) (Nat.le_of_ble_eq_true rfl) dX8_write_1 ?_
  refine r_if_ne (pc := 4) B 14 dX8_write_4 (by decide) (fun h4 => ?_) (fun h4 => ?_)
  · skip
    obtain ⟨s, hs1, hs2⟩ := sh_nI (bI_n.mp h4)
    obtain ⟨m, hm1, hm2⟩ := hz s hs1
    refine r_aload_n (pc := 14) B dX8_write_14 rfl ?_
    refine r_getr (pc := 15) B FX8_28 rfl rfl dX8_write_15 ?_
    refine r_iload_n (pc := 18) B dX8_write_18 rfl ?_
    refine r_iald (pc := 19) B rfl (ix_eq hs2 hs1 (by decide)) dX8_write_19 ?_
    refine r_if_ge (pc := 20) B 31 dX8_write_20 (by decide) (fun h20 => ?_) (fun h20 => ?_)
    · skip
      refine r_iload_n (pc := 31) B dX8_write_31 rfl ?_
      refine r_i2l (pc := 32) B dX8_write_32 ?_
      refine r_lconst (pc := 33) (x := 0) B dX8_write_33 rfl ?_
      refine r_aload_n (pc := 34) B dX8_write_34 rfl ?_
      refine r_getr (pc := 35) B FX8_31 rfl rfl dX8_write_35 ?_
      refine r_iload_n (pc := 38) B dX8_write_38 rfl ?_
      refine r_iald (pc := 39) B rfl (ix_eq hs2 hs1 (by decide)) dX8_write_39 ?_
      rw [hm2]
      refine r_iconst (pc := 40) (x := 1) B dX8_write_40 (by decide) ?_
      refine r_isub (pc := 41) B dX8_write_41 ?_
      refine r_i2l (pc := 42) B dX8_write_42 ?_
      refine r_cSi3 (pc := 43) B KX8_49 (e_isIn l G _ _ (v := i) (a := 0) (b := (nI m - 1)) rfl rfl rfl) (by decide) (Nat.le_of_ble_eq_true rfl) dX8_write_43 ?_
      refine r_if_ne (pc := 46) B 56 dX8_write_46 (by decide) (fun h46 => ?_) (fun h46 => ?_)
      · skip
        obtain ⟨k, hk1, hk2⟩ := (wr_iff hm1).mp (bI_n.mp h46)
        refine r_aload_n (pc := 56) B dX8_write_56 rfl ?_
        refine r_getr (pc := 57) B FX8_34 rfl rfl dX8_write_57 ?_
        refine r_bipush (pc := 60) (x := 40) B dX8_write_60 (by decide) ?_
        refine r_iload_n (pc := 62) B dX8_write_62 rfl ?_
        refine r_imul (pc := 63) B dX8_write_63 ?_
        refine r_iload_n (pc := 64) B dX8_write_64 rfl ?_
        refine r_iadd (pc := 65) B dX8_write_65 ?_
        have hJ99 : ∀ z : Int32, z = putF (σ 72 s) v → V X G shT σ [some (.ref (ad G 65)), some (.int x), some (.int i), some (.int v)] [.int z, .int (40 * x + i), .ref (ad G 74)] 99 := by
          intro z hzz
          refine r_iast (pc := 99) B rfl (ix_eq (by rw [hs2, hk2]; exact nx_nI s hs1 k (by omega)) (by omega) (by decide)) dX8_write_99 ?_
          rw [hzz]
          refine r_iconst (pc := 100) (x := 1) B dX8_write_100 (by decide) ?_
          exact r_iret (pc := 101) B R dX8_write_101 (Or.inr ⟨s, m, hs1, hs2, hm2, hm1, Or.inr (Or.inr ⟨Int32.not_lt.mpr h20, k, hk1, hk2, rfl, rfl⟩)⟩)
        refine r_aload_n (pc := 66) B dX8_write_66 rfl ?_
        refine r_getr (pc := 67) B FX8_28 rfl rfl dX8_write_67 ?_
        refine r_iload_n (pc := 70) B dX8_write_70 rfl ?_
        refine r_iald (pc := 71) B rfl (ix_eq hs2 hs1 (by decide)) dX8_write_71 ?_
        refine r_bipush (pc := 72) (x := 8) B dX8_write_72 (by decide) ?_
        refine r_icmp_ne (pc := 74) B 82 dX8_write_74 (by decide) (fun h74 => ?_) (fun h74 => ?_)
        · skip
          refine r_aload_n (pc := 82) B dX8_write_82 rfl ?_
          refine r_getr (pc := 83) B FX8_28 rfl rfl dX8_write_83 ?_
          refine r_iload_n (pc := 86) B dX8_write_86 rfl ?_
          refine r_iald (pc := 87) B rfl (ix_eq hs2 hs1 (by decide)) dX8_write_87 ?_
          refine r_bipush (pc := 88) (x := 16) B dX8_write_88 (by decide) ?_
          refine r_icmp_ne (pc := 90) B 98 dX8_write_90 (by decide) (fun h90 => ?_) (fun h90 => ?_)
          · skip
            refine r_iload_n (pc := 98) B dX8_write_98 rfl ?_
            exact hJ99 _ (by unfold putF; first | rw [if_pos h74] | rw [if_neg h74, if_pos h90] | rw [if_neg h74, if_neg h90])
          · skip
            refine r_iload_n (pc := 93) B dX8_write_93 rfl ?_
            refine r_i2s (pc := 94) B dX8_write_94 ?_
            refine r_goto (pc := 95) B 99 dX8_write_95 (by decide) ?_
            exact hJ99 _ (by unfold putF; first | rw [if_pos h74] | rw [if_neg h74, if_pos h90] | rw [if_neg h74, if_neg h90])
        · skip
          refine r_iload_n (pc := 77) B dX8_write_77 rfl ?_
          refine r_i2b (pc := 78) B dX8_write_78 ?_
          refine r_goto (pc := 79) B 99 dX8_write_79 (by decide) ?_
          exact hJ99 _ (by unfold putF; first | rw [if_pos h74] | rw [if_neg h74, if_pos h90] | rw [if_neg h74, if_neg h90])
      · skip
        refine r_aload_n (pc := 49) B dX8_write_49 rfl ?_
        refine r_ldc (pc := 50) B q836 dX8_write_50 ?_
        refine r_cVi1 (pc := 52) B KX8_39 (e_finds l G _ (j := 0) rfl (by decide)) rfl rfl (by decide) (Nat.le_of_ble_eq_true rfl) dX8_write_52 ?_
        exact r_iret (pc := 55) B R dX8_write_55 (Or.inr ⟨s, m, hs1, hs2, hm2, hm1, Or.inr (Or.inl ⟨Int32.not_lt.mpr h20, fun q => bI_0.mp h46 ((wr_iff hm1).mpr q), rfl, rfl⟩)⟩)
    · skip
      refine r_aload_n (pc := 23) B dX8_write_23 rfl ?_
      refine r_ldc_w (pc := 24) B q1062 dX8_write_24 ?_
      refine r_cVi1 (pc := 27) B KX8_39 (e_finds l G _ (j := 5) rfl (by decide)) rfl rfl (by decide) (Nat.le_of_ble_eq_true rfl) dX8_write_27 ?_
      exact r_iret (pc := 30) B R dX8_write_30 (Or.inr ⟨s, m, hs1, hs2, hm2, hm1, Or.inl ⟨Int32.not_le.mp h20, rfl, rfl⟩⟩)
  · skip
    refine r_aload_n (pc := 7) B dX8_write_7 rfl ?_
    refine r_ldc (pc := 8) B q836 dX8_write_8 ?_
    refine r_cVi1 (pc := 10) B KX8_39 (e_finds l G _ (j := 0) rfl (by decide)) rfl rfl (by decide) (Nat.le_of_ble_eq_true rfl) dX8_write_10 ?_
    exact r_iret (pc := 13) B R dX8_write_13 (Or.inl ⟨fun q => bI_0.mp h4 q, rfl, rfl⟩)

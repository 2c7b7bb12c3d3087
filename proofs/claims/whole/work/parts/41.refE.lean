/-! copy of the reference -/
theorem cp_ti {m a : Nat} (hm : m ≤ 40) (ha : a < 2 ^ 31) : (nI m - nI a).toInt = (m : Int) - a := by
  rw [Int32.toInt_sub, nI_toInt (by omega), nI_toInt ha, Int.bmod_eq_of_le] <;> omega
theorem cp_iff {m a c : Nat} (hm : m ≤ 40) (ha : a < 2 ^ 31) (hc : c < 2 ^ 31) : (nI m - nI a) < nI c ↔ m < a + c := by
  rw [Int32.lt_iff_toInt_lt, cp_ti hm ha, nI_toInt hc]
  omega
theorem i32_sb {c k : Nat} (h : k < c) : nI c - 1 - nI k = nI (c - 1 - k) := by
  have e : nI c = nI (c - 1 - k) + nI k + 1 := by rw [nI_add, nI_1]; congr 1; omega
  rw [e, Int32.add_sub_cancel, Int32.add_sub_cancel]
def cpR (σ : Sg) (A B c : Nat) : Sg := fun k i => if k = 74 ∧ B ≤ i ∧ i < B + c then σ 74 (A + (i - B)) else σ k i
def cpD (σ : Sg) (A B c j : Nat) : Sg := if A < B then (fun k i => if k = 74 ∧ B + c - j ≤ i ∧ i < B + c then σ 74 (A + (i - B)) else σ k i) else cpR σ A B j
theorem cpD_0 (σ : Sg) (A B c : Nat) : cpD σ A B c 0 = σ := by
  unfold cpD
  split
  · funext k i; rw [if_neg (by omega)]
  · funext k i; unfold cpR; rw [if_neg (by omega)]
theorem cpD_c (σ : Sg) (A B c : Nat) : cpD σ A B c c = cpR σ A B c := by
  unfold cpD
  split
  · funext k i; unfold cpR; rw [show B + c - c = B by omega]
  · rfl
theorem cpD_f {σ : Sg} {A B c j : Nat} (h : ¬ A < B) : cpD σ A B c (j + 1) = st2 (cpD σ A B c j) 74 (B + j) (cpD σ A B c j 74 (A + j)) := by
  unfold cpD
  rw [if_neg h, if_neg h]
  funext k i
  simp only [st2, cpR]
  by_cases hk : k = 74
  · subst hk
    by_cases hi : i = B + j
    · subst hi
      rw [if_pos (by omega), if_pos rfl, if_pos rfl, if_neg (by omega), show A + (B + j - B) = A + j by omega]
    · rw [if_pos rfl, if_neg hi]
      by_cases q : B ≤ i ∧ i < B + j
      · rw [if_pos (by omega), if_pos ⟨rfl, q⟩]
      · rw [if_neg (by omega), if_neg (by omega)]
  · rw [if_neg (by omega), if_neg hk, if_neg (by omega)]
theorem cpD_b {σ : Sg} {A B c j : Nat} (h : A < B) (hj : j < c) : cpD σ A B c (j + 1) = st2 (cpD σ A B c j) 74 (B + (c - 1 - j)) (cpD σ A B c j 74 (A + (c - 1 - j))) := by
  unfold cpD
  rw [if_pos h, if_pos h]
  funext k i
  simp only [st2]
  by_cases hk : k = 74
  · subst hk
    by_cases hi : i = B + (c - 1 - j)
    · subst hi
      rw [if_pos (by omega), if_pos rfl, if_pos rfl, if_neg (by omega), show A + (B + (c - 1 - j) - B) = A + (c - 1 - j) by omega]
    · rw [if_pos rfl, if_neg hi]
      by_cases q : B + c - j ≤ i ∧ i < B + c
      · rw [if_pos (by omega), if_pos ⟨rfl, q⟩]
      · rw [if_neg (by omega), if_neg (by omega)]
  · rw [if_neg (by omega), if_neg hk, if_neg (by omega)]
abbrev hpR (m1 m2 : Nat) (f t0 n : Int32) : Prop := ∃ a b c, f = nI a ∧ t0 = nI b ∧ n = nI c ∧ a + c ≤ m1 ∧ b + c ≤ m2

theorem nx_nI4 (s : Nat) (hs : s < 4) (k : Nat) : (40 : Int32) * nI s + nI k = nI (40 * s + k) := by
  rw [show (40 : Int32) * nI s = nI (40 * s) from (show ∀ s, s < 4 → (40 : Int32) * nI s = nI (40 * s) by decide +kernel) s hs, nI_add]

set_option maxHeartbeats 4000000 in
set_option maxRecDepth 20000 in
theorem e_copy (l : Launch) (G : GG) (σ : Sg) (hz : szR σ) (x f y t0 n : Int32) : Ct l G mX8_copy 1 shT [.ref (ad G 65), .int x, .int f, .int y, .int t0, .int n] σ (fun r τ => (¬ (shP x ∧ shP y) ∧ gQ σ 0 r τ) ∨ ∃ s t m1 m2, s < 4 ∧ t < 4 ∧ x = nI s ∧ y = nI t ∧ σ 73 s = nI m1 ∧ m1 ≤ 40 ∧ σ 73 t = nI m2 ∧ m2 ≤ 40 ∧ (((σ 72 s < 0 ∨ σ 72 t < 0) ∧ gQ σ 5 r τ) ∨ (¬ σ 72 s < 0 ∧ ¬ σ 72 t < 0 ∧ ¬ σ 72 s = σ 72 t ∧ gQ σ 2 r τ) ∨ (¬ σ 72 s < 0 ∧ ¬ σ 72 t < 0 ∧ σ 72 s = σ 72 t ∧ ((¬ hpR m1 m2 f t0 n ∧ gQ σ 0 r τ) ∨ ∃ a b c, f = nI a ∧ t0 = nI b ∧ n = nI c ∧ a + c ≤ m1 ∧ b + c ≤ m2 ∧ r = some (.int n) ∧ τ = cpR σ (40 * s + a) (40 * t + b) c)))) := by
  refine ct_intro (by decide) (Nat.le_of_ble_eq_true rfl) (fun X B R => ?_)
  show V X G shT σ [some (.ref (ad G 65)), some (.int x), some (.int f), some (.int y), some (.int t0), some (.int n), none, none, none, none] [] 0
  refine r_iload_n (pc := 0) B dX8_copy_0 rfl ?_
  refine r_cSi1 (pc := 1) B KX8_296 (e_isSheet l G _ _ _) (by decide) (Nat.le_of_ble_eq_true rfl) dX8_copy_1 ?_
  refine r_if_eq (pc := 4) B 14 dX8_copy_4 (by decide) (fun h4 => ?_) (fun h4 => ?_)
  · skip
    refine r_aload_n (pc := 14) B dX8_copy_14 rfl ?_
    refine r_ldc (pc := 15) B q836 dX8_copy_15 ?_
    refine r_cVi1 (pc := 17) B KX8_39 (e_finds l G _ (j := 0) rfl (by decide)) rfl rfl (by decide) (Nat.le_of_ble_eq_true rfl) dX8_copy_17 ?_
    exact r_iret (pc := 20) B R dX8_copy_20 (Or.inl ⟨by first | exact fun q => bI_0.mp h4 q.1 | exact fun q => bI_0.mp h11 q.2, rfl, rfl⟩)
  · skip
    obtain ⟨s, hs1, hs2⟩ := sh_nI (bI_n.mp h4)
    refine r_iload_n (pc := 7) B dX8_copy_7 rfl ?_
    refine r_cSi1 (pc := 8) B KX8_296 (e_isSheet l G _ _ _) (by decide) (Nat.le_of_ble_eq_true rfl) dX8_copy_8 ?_
    refine r_if_ne (pc := 11) B 21 dX8_copy_11 (by decide) (fun h11 => ?_) (fun h11 => ?_)
    · skip
      obtain ⟨t, ht1, ht2⟩ := sh_nI (bI_n.mp h11)
      obtain ⟨m1, hm1, hm2⟩ := hz s hs1
      obtain ⟨m2, hm3, hm4⟩ := hz t ht1
      refine r_aload_n (pc := 21) B dX8_copy_21 rfl ?_
      refine r_getr (pc := 22) B FX8_28 rfl rfl dX8_copy_22 ?_
      refine r_iload_n (pc := 25) B dX8_copy_25 rfl ?_
      refine r_iald (pc := 26) B rfl (ix_eq hs2 hs1 (by decide)) dX8_copy_26 ?_
      refine r_if_lt (pc := 27) B 39 dX8_copy_27 (by decide) (fun h27 => ?_) (fun h27 => ?_)
      · skip
        refine r_aload_n (pc := 39) B dX8_copy_39 rfl ?_
        refine r_ldc_w (pc := 40) B q1062 dX8_copy_40 ?_
        refine r_cVi1 (pc := 43) B KX8_39 (e_finds l G _ (j := 5) rfl (by decide)) rfl rfl (by decide) (Nat.le_of_ble_eq_true rfl) dX8_copy_43 ?_
        exact r_iret (pc := 46) B R dX8_copy_46 (Or.inr ⟨s, t, m1, m2, hs1, ht1, hs2, ht2, hm2, hm1, hm4, hm3, Or.inl ⟨by first | exact Or.inl h27 | exact Or.inr (Int32.not_le.mp h36), rfl, rfl⟩⟩)
      · skip
        refine r_aload_n (pc := 30) B dX8_copy_30 rfl ?_
        refine r_getr (pc := 31) B FX8_28 rfl rfl dX8_copy_31 ?_
        refine r_iload_n (pc := 34) B dX8_copy_34 rfl ?_
        refine r_iald (pc := 35) B rfl (ix_eq ht2 ht1 (by decide)) dX8_copy_35 ?_
        refine r_if_ge (pc := 36) B 47 dX8_copy_36 (by decide) (fun h36 => ?_) (fun h36 => ?_)
        · skip
          refine r_aload_n (pc := 47) B dX8_copy_47 rfl ?_
          refine r_getr (pc := 48) B FX8_28 rfl rfl dX8_copy_48 ?_
          refine r_iload_n (pc := 51) B dX8_copy_51 rfl ?_
          refine r_iald (pc := 52) B rfl (ix_eq hs2 hs1 (by decide)) dX8_copy_52 ?_
          refine r_aload_n (pc := 53) B dX8_copy_53 rfl ?_
          refine r_getr (pc := 54) B FX8_28 rfl rfl dX8_copy_54 ?_
          refine r_iload_n (pc := 57) B dX8_copy_57 rfl ?_
          refine r_iald (pc := 58) B rfl (ix_eq ht2 ht1 (by decide)) dX8_copy_58 ?_
          refine r_icmp_eq (pc := 59) B 70 dX8_copy_59 (by decide) (fun h59 => ?_) (fun h59 => ?_)
          · skip
            refine r_iload_n (pc := 70) B dX8_copy_70 rfl ?_
            refine r_if_lt (pc := 71) B 111 dX8_copy_71 (by decide) (fun h71 => ?_) (fun h71 => ?_)
            · skip
              refine r_aload_n (pc := 111) B dX8_copy_111 rfl ?_
              refine r_ldc (pc := 112) B q836 dX8_copy_112 ?_
              refine r_cVi1 (pc := 114) B KX8_39 (e_finds l G _ (j := 0) rfl (by decide)) rfl rfl (by decide) (Nat.le_of_ble_eq_true rfl) dX8_copy_114 ?_
              exact r_iret (pc := 117) B R dX8_copy_117 (Or.inr ⟨s, t, m1, m2, hs1, ht1, hs2, ht2, hm2, hm1, hm4, hm3, Or.inr (Or.inr ⟨h27, Int32.not_lt.mpr h36, h59, Or.inl ⟨by first | exact hno | (rintro ⟨a2, b2, c2, e1, e2, e3, h1, h2⟩; first | exact nI_pos (by omega) (e1 ▸ h71) | exact nI_pos (by omega) (e2 ▸ h76) | exact nI_pos (by omega) (e3 ▸ h81)), rfl, rfl⟩⟩)⟩)
            · skip
              refine r_iload (pc := 74) B dX8_copy_74 rfl ?_
              refine r_if_lt (pc := 76) B 111 dX8_copy_76 (by decide) (fun h76 => ?_) (fun h76 => ?_)
              · skip
                refine r_aload_n (pc := 111) B dX8_copy_111 rfl ?_
                refine r_ldc (pc := 112) B q836 dX8_copy_112 ?_
                refine r_cVi1 (pc := 114) B KX8_39 (e_finds l G _ (j := 0) rfl (by decide)) rfl rfl (by decide) (Nat.le_of_ble_eq_true rfl) dX8_copy_114 ?_
                exact r_iret (pc := 117) B R dX8_copy_117 (Or.inr ⟨s, t, m1, m2, hs1, ht1, hs2, ht2, hm2, hm1, hm4, hm3, Or.inr (Or.inr ⟨h27, Int32.not_lt.mpr h36, h59, Or.inl ⟨by first | exact hno | (rintro ⟨a2, b2, c2, e1, e2, e3, h1, h2⟩; first | exact nI_pos (by omega) (e1 ▸ h71) | exact nI_pos (by omega) (e2 ▸ h76) | exact nI_pos (by omega) (e3 ▸ h81)), rfl, rfl⟩⟩)⟩)
              · skip
                refine r_iload (pc := 79) B dX8_copy_79 rfl ?_
                refine r_if_lt (pc := 81) B 111 dX8_copy_81 (by decide) (fun h81 => ?_) (fun h81 => ?_)
                · skip
                  refine r_aload_n (pc := 111) B dX8_copy_111 rfl ?_
                  refine r_ldc (pc := 112) B q836 dX8_copy_112 ?_
                  refine r_cVi1 (pc := 114) B KX8_39 (e_finds l G _ (j := 0) rfl (by decide)) rfl rfl (by decide) (Nat.le_of_ble_eq_true rfl) dX8_copy_114 ?_
                  exact r_iret (pc := 117) B R dX8_copy_117 (Or.inr ⟨s, t, m1, m2, hs1, ht1, hs2, ht2, hm2, hm1, hm4, hm3, Or.inr (Or.inr ⟨h27, Int32.not_lt.mpr h36, h59, Or.inl ⟨by first | exact hno | (rintro ⟨a2, b2, c2, e1, e2, e3, h1, h2⟩; first | exact nI_pos (by omega) (e1 ▸ h71) | exact nI_pos (by omega) (e2 ▸ h76) | exact nI_pos (by omega) (e3 ▸ h81)), rfl, rfl⟩⟩)⟩)
                · skip
                  obtain ⟨a, ha, ea⟩ := nI_of h71
                  obtain ⟨b, hb, eb⟩ := nI_of h76
                  obtain ⟨c, hc, ec⟩ := nI_of h81
                  refine r_iload (pc := 84) B dX8_copy_84 rfl ?_
                  refine r_aload_n (pc := 86) B dX8_copy_86 rfl ?_
                  refine r_getr (pc := 87) B FX8_31 rfl rfl dX8_copy_87 ?_
                  refine r_iload_n (pc := 90) B dX8_copy_90 rfl ?_
                  refine r_iald (pc := 91) B rfl (ix_eq hs2 hs1 (by decide)) dX8_copy_91 ?_
                  rw [hm2, ea, ec]
                  refine r_iload_n (pc := 92) B dX8_copy_92 rfl ?_
                  refine r_isub (pc := 93) B dX8_copy_93 ?_
                  refine r_icmp_gt (pc := 94) B 111 dX8_copy_94 (by decide) (fun h94 => ?_) (fun h94 => ?_)
                  · skip
                    have hno : ¬ hpR m1 m2 f t0 n := by
                      rintro ⟨a2, b2, c2, e1, e2, e3, h1, h2⟩
                      have q1 := (nI_eq ha (by omega)).mp (ea.symm.trans e1)
                      have q2 := (nI_eq hc (by omega)).mp (ec.symm.trans e3)
                      have := (cp_iff hm1 ha hc).mp h94
                      omega
                    rw [← ea, ← ec]
                    refine r_aload_n (pc := 111) B dX8_copy_111 rfl ?_
                    refine r_ldc (pc := 112) B q836 dX8_copy_112 ?_
                    refine r_cVi1 (pc := 114) B KX8_39 (e_finds l G _ (j := 0) rfl (by decide)) rfl rfl (by decide) (Nat.le_of_ble_eq_true rfl) dX8_copy_114 ?_
                    exact r_iret (pc := 117) B R dX8_copy_117 (Or.inr ⟨s, t, m1, m2, hs1, ht1, hs2, ht2, hm2, hm1, hm4, hm3, Or.inr (Or.inr ⟨h27, Int32.not_lt.mpr h36, h59, Or.inl ⟨by first | exact hno | (rintro ⟨a2, b2, c2, e1, e2, e3, h1, h2⟩; first | exact nI_pos (by omega) (e1 ▸ h71) | exact nI_pos (by omega) (e2 ▸ h76) | exact nI_pos (by omega) (e3 ▸ h81)), rfl, rfl⟩⟩)⟩)
                  · skip
                    have hac : a + c ≤ m1 := by rcases Nat.lt_or_ge m1 (a + c) with q | q; exact absurd ((cp_iff hm1 ha hc).mpr q) h94; exact q
                    refine r_iload (pc := 97) B dX8_copy_97 rfl ?_
                    refine r_aload_n (pc := 99) B dX8_copy_99 rfl ?_
                    refine r_getr (pc := 100) B FX8_31 rfl rfl dX8_copy_100 ?_
                    refine r_iload_n (pc := 103) B dX8_copy_103 rfl ?_
                    refine r_iald (pc := 104) B rfl (ix_eq ht2 ht1 (by decide)) dX8_copy_104 ?_
                    rw [hm4, eb]
                    refine r_iload (pc := 105) B dX8_copy_105 rfl ?_
                    refine r_isub (pc := 107) B dX8_copy_107 ?_
                    refine r_icmp_le (pc := 108) B 118 dX8_copy_108 (by decide) (fun h108 => ?_) (fun h108 => ?_)
                    · skip
                      have hbc : b + c ≤ m2 := by rcases Nat.lt_or_ge m2 (b + c) with q | q; exact absurd h108 (Int32.not_le.mpr ((cp_iff hm3 hb hc).mpr q)); exact q
                      rw [← ea, ← ec, ← eb]
                      refine r_bipush (pc := 118) (x := 40) B dX8_copy_118 (by decide) ?_
                      refine r_iload_n (pc := 120) B dX8_copy_120 rfl ?_
                      refine r_imul (pc := 121) B dX8_copy_121 ?_
                      refine r_iload_n (pc := 122) B dX8_copy_122 rfl ?_
                      refine r_iadd (pc := 123) B dX8_copy_123 ?_
                      rw [show 40 * x + f = nI (40 * s + a) by rw [hs2, ea]; exact nx_nI4 s hs1 a]
                      refine r_istore_6 (pc := 124) B dX8_copy_124 (by decide) rfl ?_
                      refine r_bipush (pc := 126) (x := 40) B dX8_copy_126 (by decide) ?_
                      refine r_iload_n (pc := 128) B dX8_copy_128 rfl ?_
                      refine r_imul (pc := 129) B dX8_copy_129 ?_
                      refine r_iload (pc := 130) B dX8_copy_130 rfl ?_
                      refine r_iadd (pc := 132) B dX8_copy_132 ?_
                      rw [show 40 * y + t0 = nI (40 * t + b) by rw [ht2, eb]; exact nx_nI4 t ht1 b]
                      refine r_istore_7 (pc := 133) B dX8_copy_133 (by decide) rfl ?_
                      refine r_iconst (pc := 135) (x := 0) B dX8_copy_135 (by decide) ?_
                      refine r_istore_8 (pc := 136) B dX8_copy_136 (by decide) rfl ?_
                      have hL138 : ∀ (p k : Nat) (tl : Option Value), k + p = c → V X G shT (cpD σ (40 * s + a) (40 * t + b) c k) [some (.ref (ad G 65)), some (.int x), some (.int f), some (.int y), some (.int t0), some (.int n), some (.int (nI (40 * s + a))), some (.int (nI (40 * t + b))), some (.int (nI k)), tl] [] 138 := by
                        intro p
                        induction p with
                        | zero =>
                          intro k tl hk
                          have ek : k = c := by omega
                          subst ek
                          refine r_iload (pc := 138) B dX8_copy_138 rfl ?_
                          refine r_iload (pc := 140) B dX8_copy_140 rfl ?_
                          refine r_icmp_ge (pc := 142) B 192 dX8_copy_142 (by decide) (fun h142 => ?_) (fun h142 => ?_)
                          · skip
                            refine r_iload (pc := 192) B dX8_copy_192 rfl ?_
                            exact r_iret (pc := 194) B R dX8_copy_194 (Or.inr ⟨s, t, m1, m2, hs1, ht1, hs2, ht2, hm2, hm1, hm4, hm3, Or.inr (Or.inr ⟨h27, Int32.not_lt.mpr h36, h59, Or.inr ⟨a, b, k, ea, eb, ec, hac, hbc, rfl, cpD_c _ _ _ _⟩⟩)⟩)
                          · skip
                            exact absurd (by rw [ec]; exact Int32.le_refl _) h142
                        | succ p ih =>
                          intro k tl hk
                          refine r_iload (pc := 138) B dX8_copy_138 rfl ?_
                          refine r_iload (pc := 140) B dX8_copy_140 rfl ?_
                          refine r_icmp_ge (pc := 142) B 192 dX8_copy_142 (by decide) (fun h142 => ?_) (fun h142 => ?_)
                          · skip
                            exact absurd ((nI_leI (a := c) (b := k) (by omega) (by omega)).mp (by rw [← ec]; exact h142)) (by omega)
                          · skip
                            have hJ164 : ∀ i : Nat, i < c → cpD σ (40 * s + a) (40 * t + b) c (k + 1) = st2 (cpD σ (40 * s + a) (40 * t + b) c k) 74 (40 * t + b + i) ((cpD σ (40 * s + a) (40 * t + b) c k) 74 (40 * s + a + i)) → V X G shT (cpD σ (40 * s + a) (40 * t + b) c k) [some (.ref (ad G 65)), some (.int x), some (.int f), some (.int y), some (.int t0), some (.int n), some (.int (nI (40 * s + a))), some (.int (nI (40 * t + b))), some (.int (nI k)), tl] [.int (nI i)] 164 := by
                              intro i hi hst
                              refine r_istore_9 (pc := 164) B dX8_copy_164 (by decide) rfl ?_
                              refine r_aload_n (pc := 166) B dX8_copy_166 rfl ?_
                              refine r_getr (pc := 167) B FX8_34 rfl rfl dX8_copy_167 ?_
                              refine r_iload (pc := 170) B dX8_copy_170 rfl ?_
                              refine r_iload (pc := 172) B dX8_copy_172 rfl ?_
                              refine r_iadd (pc := 174) B dX8_copy_174 ?_
                              refine r_aload_n (pc := 175) B dX8_copy_175 rfl ?_
                              refine r_getr (pc := 176) B FX8_34 rfl rfl dX8_copy_176 ?_
                              refine r_iload (pc := 179) B dX8_copy_179 rfl ?_
                              refine r_iload (pc := 181) B dX8_copy_181 rfl ?_
                              refine r_iadd (pc := 183) B dX8_copy_183 ?_
                              refine r_iald (pc := 184) B rfl (ix_eq (nI_add _ _) (by omega) (by decide)) dX8_copy_184 ?_
                              refine r_iast (pc := 185) B rfl (ix_eq (nI_add _ _) (by omega) (by decide)) dX8_copy_185 ?_
                              rw [← hst]
                              refine r_iinc_8 (pc := 186) (y := _ + 1) B dX8_copy_186 rfl (by decide) rfl ?_
                              refine r_goto (pc := 189) B 138 dX8_copy_189 (by decide) ?_
                              rw [nI_1]
                              exact ih (k + 1) _ (by omega)
                            refine r_iload (pc := 145) B dX8_copy_145 rfl ?_
                            refine r_iload (pc := 147) B dX8_copy_147 rfl ?_
                            refine r_icmp_ge (pc := 149) B 162 dX8_copy_149 (by decide) (fun h149 => ?_) (fun h149 => ?_)
                            · skip
                              refine r_iload (pc := 162) B dX8_copy_162 rfl ?_
                              first | (have hg : 40 * t + b ≤ 40 * s + a := (nI_leI (by omega) (by omega)).mp h149; exact hJ164 k (by omega) (cpD_f (by omega))) | (rw [show n - 1 - nI k = nI (c - 1 - k) by rw [ec]; exact i32_sb (by omega)]; exact hJ164 (c - 1 - k) (by omega) (cpD_b (by rcases Nat.lt_or_ge (40 * s + a) (40 * t + b) with q | q; exact q; exact absurd ((nI_leI (by omega) (by omega)).mpr q) h149) (by omega)))
                            · skip
                              refine r_iload (pc := 152) B dX8_copy_152 rfl ?_
                              refine r_iconst (pc := 154) (x := 1) B dX8_copy_154 (by decide) ?_
                              refine r_isub (pc := 155) B dX8_copy_155 ?_
                              refine r_iload (pc := 156) B dX8_copy_156 rfl ?_
                              refine r_isub (pc := 158) B dX8_copy_158 ?_
                              refine r_goto (pc := 159) B 164 dX8_copy_159 (by decide) ?_
                              first | (have hg : 40 * t + b ≤ 40 * s + a := (nI_leI (by omega) (by omega)).mp h149; exact hJ164 k (by omega) (cpD_f (by omega))) | (rw [show n - 1 - nI k = nI (c - 1 - k) by rw [ec]; exact i32_sb (by omega)]; exact hJ164 (c - 1 - k) (by omega) (cpD_b (by rcases Nat.lt_or_ge (40 * s + a) (40 * t + b) with q | q; exact q; exact absurd ((nI_leI (by omega) (by omega)).mpr q) h149) (by omega)))
                      rw [← cpD_0 σ (40 * s + a) (40 * t + b) c]
                      exact hL138 c 0 none (by omega)
                    · skip
                      have hno : ¬ hpR m1 m2 f t0 n := by
                        rintro ⟨a2, b2, c2, e1, e2, e3, h1, h2⟩
                        have q1 := (nI_eq hb (by omega)).mp (eb.symm.trans e2)
                        have q2 := (nI_eq hc (by omega)).mp (ec.symm.trans e3)
                        exact h108 (Int32.not_lt.mp (fun z => by have := (cp_iff hm3 hb hc).mp z; omega))
                      rw [← ea, ← ec, ← eb]
                      refine r_aload_n (pc := 111) B dX8_copy_111 rfl ?_
                      refine r_ldc (pc := 112) B q836 dX8_copy_112 ?_
                      refine r_cVi1 (pc := 114) B KX8_39 (e_finds l G _ (j := 0) rfl (by decide)) rfl rfl (by decide) (Nat.le_of_ble_eq_true rfl) dX8_copy_114 ?_
                      exact r_iret (pc := 117) B R dX8_copy_117 (Or.inr ⟨s, t, m1, m2, hs1, ht1, hs2, ht2, hm2, hm1, hm4, hm3, Or.inr (Or.inr ⟨h27, Int32.not_lt.mpr h36, h59, Or.inl ⟨by first | exact hno | (rintro ⟨a2, b2, c2, e1, e2, e3, h1, h2⟩; first | exact nI_pos (by omega) (e1 ▸ h71) | exact nI_pos (by omega) (e2 ▸ h76) | exact nI_pos (by omega) (e3 ▸ h81)), rfl, rfl⟩⟩)⟩)
          · skip
            refine r_aload_n (pc := 62) B dX8_copy_62 rfl ?_
            refine r_ldc_w (pc := 63) B q1196 dX8_copy_63 ?_
            refine r_cVi1 (pc := 66) B KX8_39 (e_finds l G _ (j := 2) rfl (by decide)) rfl rfl (by decide) (Nat.le_of_ble_eq_true rfl) dX8_copy_66 ?_
            exact r_iret (pc := 69) B R dX8_copy_69 (Or.inr ⟨s, t, m1, m2, hs1, ht1, hs2, ht2, hm2, hm1, hm4, hm3, Or.inr (Or.inl ⟨h27, Int32.not_lt.mpr h36, h59, rfl, rfl⟩)⟩)
        · skip
          refine r_aload_n (pc := 39) B dX8_copy_39 rfl ?_
          refine r_ldc_w (pc := 40) B q1062 dX8_copy_40 ?_
          refine r_cVi1 (pc := 43) B KX8_39 (e_finds l G _ (j := 5) rfl (by decide)) rfl rfl (by decide) (Nat.le_of_ble_eq_true rfl) dX8_copy_43 ?_
          exact r_iret (pc := 46) B R dX8_copy_46 (Or.inr ⟨s, t, m1, m2, hs1, ht1, hs2, ht2, hm2, hm1, hm4, hm3, Or.inl ⟨by first | exact Or.inl h27 | exact Or.inr (Int32.not_le.mp h36), rfl, rfl⟩⟩)
    · skip
      refine r_aload_n (pc := 14) B dX8_copy_14 rfl ?_
      refine r_ldc (pc := 15) B q836 dX8_copy_15 ?_
      refine r_cVi1 (pc := 17) B KX8_39 (e_finds l G _ (j := 0) rfl (by decide)) rfl rfl (by decide) (Nat.le_of_ble_eq_true rfl) dX8_copy_17 ?_
      exact r_iret (pc := 20) B R dX8_copy_20 (Or.inl ⟨by first | exact fun q => bI_0.mp h4 q.1 | exact fun q => bI_0.mp h11 q.2, rfl, rfl⟩)

/-! images, load, judge, copy of the reference -/

set_option maxHeartbeats 4000000 in
set_option maxRecDepth 20000 in
theorem e_image (l : Launch) (G : GG) (σ : Sg) : Ct l G mX8_image 1 shT [.ref (ad G 65)] σ (fun r τ => r = some (.int 1) ∧ τ = st2 (cpN σ 66 67 127) 65 4 1) := by
  refine ct_intro (by decide) (Nat.le_of_ble_eq_true rfl) (fun X B R => ?_)
  show V X G shT σ [some (.ref (ad G 65))] [] 0
  refine r_aload_n (pc := 0) B dX8_image_0 rfl ?_
  refine r_getr (pc := 1) B FX8_7 rfl rfl dX8_image_1 ?_
  refine r_aload_n (pc := 4) B dX8_image_4 rfl ?_
  refine r_getr (pc := 5) B FX8_13 rfl rfl dX8_image_5 ?_
  refine r_cSv2 (pc := 8) B KX8_140 (e_copyRow l G _ (a := 66) (c := 67) rfl rfl (by decide)) (by decide) (Nat.le_of_ble_eq_true rfl) dX8_image_8 ?_
  refine r_aload_n (pc := 11) B dX8_image_11 rfl ?_
  refine r_iconst (pc := 12) (x := 1) B dX8_image_12 (by decide) ?_
  refine r_putz (pc := 13) B PX8_300 (by decide) rfl rfl dX8_image_13 ?_
  refine r_iconst (pc := 16) (x := 1) B dX8_image_16 (by decide) ?_
  exact r_iret (pc := 17) B R dX8_image_17 ⟨rfl, rfl⟩
set_option maxHeartbeats 4000000 in
set_option maxRecDepth 20000 in
theorem e_undo (l : Launch) (G : GG) (σ : Sg) : Ct l G mX8_undo 1 shT [.ref (ad G 65)] σ (fun r τ => (σ 65 4 = 0 ∧ gQ σ 3 r τ) ∨ (¬ σ 65 4 = 0 ∧ r = some (.int (σ 67 1)) ∧ τ = cpN σ 67 66 127)) := by
  refine ct_intro (by decide) (Nat.le_of_ble_eq_true rfl) (fun X B R => ?_)
  show V X G shT σ [some (.ref (ad G 65))] [] 0
  refine r_aload_n (pc := 0) B dX8_undo_0 rfl ?_
  refine r_geti (pc := 1) B FX8_300 rfl rfl dX8_undo_1 ?_
  refine r_if_ne (pc := 4) B 14 dX8_undo_4 (by decide) (fun h4 => ?_) (fun h4 => ?_)
  · skip
    refine r_aload_n (pc := 14) B dX8_undo_14 rfl ?_
    refine r_getr (pc := 15) B FX8_13 rfl rfl dX8_undo_15 ?_
    refine r_aload_n (pc := 18) B dX8_undo_18 rfl ?_
    refine r_getr (pc := 19) B FX8_7 rfl rfl dX8_undo_19 ?_
    refine r_cSv2 (pc := 22) B KX8_140 (e_copyRow l G _ (a := 67) (c := 66) rfl rfl (by decide)) (by decide) (Nat.le_of_ble_eq_true rfl) dX8_undo_22 ?_
    refine r_aload_n (pc := 25) B dX8_undo_25 rfl ?_
    refine r_getr (pc := 26) B FX8_7 rfl rfl dX8_undo_26 ?_
    refine r_iconst (pc := 29) (x := 1) B dX8_undo_29 (by decide) ?_
    refine r_iald (pc := 30) B rfl (ix_of 1 rfl) dX8_undo_30 ?_
    exact r_iret (pc := 31) B R dX8_undo_31 (Or.inr ⟨h4, by simp [cpN], rfl⟩)
  · skip
    refine r_aload_n (pc := 7) B dX8_undo_7 rfl ?_
    refine r_ldc (pc := 8) B q989 dX8_undo_8 ?_
    refine r_cVi1 (pc := 10) B KX8_39 (e_finds l G _ (j := 3) rfl (by decide)) rfl rfl (by decide) (Nat.le_of_ble_eq_true rfl) dX8_undo_10 ?_
    exact r_iret (pc := 13) B R dX8_undo_13 (Or.inl ⟨h4, rfl, rfl⟩)
set_option maxHeartbeats 4000000 in
set_option maxRecDepth 20000 in
theorem e_tear (l : Launch) (G : GG) (σ : Sg) : Ct l G mX8_tear 0 shT [.ref (ad G 65)] σ (fun r τ => r = some (.int (bI (¬ σ 65 4 = 0))) ∧ τ = st2 σ 65 4 0) := by
  refine ct_intro (by decide) (Nat.le_of_ble_eq_true rfl) (fun X B R => ?_)
  show V X G shT σ [some (.ref (ad G 65)), none] [] 0
  refine r_aload_n (pc := 0) B dX8_tear_0 rfl ?_
  refine r_geti (pc := 1) B FX8_300 rfl rfl dX8_tear_1 ?_
  refine r_istore_1 (pc := 4) B dX8_tear_4 (by decide) rfl ?_
  refine r_aload_n (pc := 5) B dX8_tear_5 rfl ?_
  refine r_iconst (pc := 6) (x := 0) B dX8_tear_6 (by decide) ?_
  refine r_putz (pc := 7) B PX8_300 (by decide) rfl rfl dX8_tear_7 ?_
  refine r_iload_n (pc := 10) B dX8_tear_10 rfl ?_
  refine r_bz_if_eq (pc := 11) B dX8_tear_11 dX8_tear_14 dX8_tear_15 dX8_tear_18 ?_
  exact r_iret (pc := 19) B R dX8_tear_19 ⟨rfl, rfl⟩
theorem st_in {a : Int32} (h : ¬ a < -1 ∧ ¬ 6 < a) : ∃ k, k < 8 ∧ a + 1 = nI k ∧ (a < 0 ↔ k = 0) ∧ (∀ j, k = j + 1 → a = nI j) := by
  by_cases q : a < 0
  · have e : a = -1 := by
      have h1 := h.1
      rw [Int32.lt_iff_toInt_lt] at h1 q
      apply Int32.toInt_inj.mp
      have : (-1 : Int32).toInt = -1 := by decide
      have : (0 : Int32).toInt = 0 := by decide
      omega
    subst e
    exact ⟨0, by omega, by decide, by decide, fun j hj => by omega⟩
  · obtain ⟨k, hk, rfl⟩ := wi_nI (g := 6) (by decide) (x := a) ⟨q, h.2⟩
    exact ⟨k + 1, by omega, nI_1 _, ⟨fun z => absurd z q, fun z => by omega⟩, fun j hj => by rw [show k = j by omega]⟩

set_option maxHeartbeats 4000000 in
set_option maxRecDepth 20000 in
theorem e_status (l : Launch) (G : GG) (σ : Sg) (a : Int32) : Ct l G mX8_status 1 shT [.ref (ad G 65), .int a] σ (fun r τ => (¬ (¬ a < -1 ∧ ¬ 6 < a) ∧ gQ σ 0 r τ) ∨ ((¬ a < -1 ∧ ¬ 6 < a) ∧ ∃ k, k < 8 ∧ a + 1 = nI k ∧ (a < 0 ↔ k = 0) ∧ (∀ j, k = j + 1 → a = nI j) ∧ r = some (.int (σ 70 k)) ∧ τ = σ)) := by
  refine ct_intro (by decide) (Nat.le_of_ble_eq_true rfl) (fun X B R => ?_)
  show V X G shT σ [some (.ref (ad G 65)), some (.int a)] [] 0
  refine r_iload_n (pc := 0) B dX8_status_0 rfl ?_
  refine r_i2l (pc := 1) B dX8_status_1 ?_
  refine r_ldc2_w (pc := 2) B q1238 dX8_status_2 ?_
  refine r_ldc2_w (pc := 5) B q870 dX8_status_5 ?_
  refine r_cSi3 (pc := 8) B KX8_49 (e_isIn l G _ _ (v := a) (a := (-1)) (b := 6) rfl (by decide) rfl) (by decide) (Nat.le_of_ble_eq_true rfl) dX8_status_8 ?_
  refine r_if_eq (pc := 11) B 25 dX8_status_11 (by decide) (fun h11 => ?_) (fun h11 => ?_)
  · skip
    refine r_aload_n (pc := 25) B dX8_status_25 rfl ?_
    refine r_ldc (pc := 26) B q836 dX8_status_26 ?_
    refine r_cVi1 (pc := 28) B KX8_39 (e_finds l G _ (j := 0) rfl (by decide)) rfl rfl (by decide) (Nat.le_of_ble_eq_true rfl) dX8_status_28 ?_
    exact r_iret (pc := 31) B R dX8_status_31 (by first | exact Or.inl ⟨bI_0.mp h11, rfl, rfl⟩ | exact Or.inr ⟨bI_n.mp h11, k, hk, hk2, hk3, hk4, rfl, rfl⟩)
  · skip
    obtain ⟨k, hk, hk2, hk3, hk4⟩ := st_in (bI_n.mp h11)
    refine r_aload_n (pc := 14) B dX8_status_14 rfl ?_
    refine r_getr (pc := 15) B FX8_22 rfl rfl dX8_status_15 ?_
    refine r_iload_n (pc := 18) B dX8_status_18 rfl ?_
    refine r_iconst (pc := 19) (x := 1) B dX8_status_19 (by decide) ?_
    refine r_iadd (pc := 20) B dX8_status_20 ?_
    refine r_iald (pc := 21) B rfl (ix_eq hk2 hk (by decide)) dX8_status_21 ?_
    refine r_goto (pc := 22) B 31 dX8_status_22 (by decide) ?_
    exact r_iret (pc := 31) B R dX8_status_31 (by first | exact Or.inl ⟨bI_0.mp h11, rfl, rfl⟩ | exact Or.inr ⟨bI_n.mp h11, k, hk, hk2, hk3, hk4, rfl, rfl⟩)
abbrev ldQ (σ : Sg) (K : Nat → Nat → Option Value → Sg → Prop) (x : Int32) (r : Option Value) (τ : Sg) : Prop := (¬ shP x ∧ gQ σ 0 r τ) ∨ ∃ s m, s < 4 ∧ x = nI s ∧ σ 73 s = nI m ∧ m ≤ 40 ∧ ((σ 72 s < 0 ∧ gQ σ 5 r τ) ∨ (¬ σ 72 s < 0 ∧ K s m r τ))
theorem wl_cs {σ : Sg} (hz : szR σ) (x : Int32) : (∃ j, j < 7 ∧ wtF σ x = fA j ∧ ¬ fA j = 0 ∧ ∀ K, ldQ σ K x (some (.int (fA j))) (fnR σ j)) ∨ ∃ s m, s < 4 ∧ x = nI s ∧ σ 73 s = nI m ∧ m ≤ 40 ∧ ¬ σ 72 s < 0 ∧ wtF σ x = 0 := by
  rcases wt_cs σ x with ⟨h1, h2⟩ | ⟨e, he, hx, ⟨h1, h2⟩ | ⟨h1, h2⟩⟩
  · exact Or.inl ⟨0, by decide, h2, fA_n0.1, fun K => Or.inl ⟨h1, rfl, rfl⟩⟩
  · obtain ⟨m, hm, hm2⟩ := hz e he
    exact Or.inl ⟨5, by decide, h2, fA_n0.2, fun K => Or.inr ⟨e, m, he, hx, hm2, hm, Or.inl ⟨h1, rfl, rfl⟩⟩⟩
  · obtain ⟨m, hm, hm2⟩ := hz e he
    exact Or.inr ⟨e, m, he, hx, hm2, hm, h1, h2⟩
theorem ldV_s (w f : Nat → Int32) (k : Nat) : upd (ldV w f k) (21 + k) (f k) = ldV w f (k + 1) := by
  funext j
  simp only [upd, ldV]
  by_cases h : j = 21 + k
  · rw [if_pos h, if_pos (by omega), show j - 21 = k by omega]
  · rw [if_neg h]
    by_cases q : 21 ≤ j ∧ j < 21 + k
    · rw [if_pos q, if_pos (by omega)]
    · rw [if_neg q, if_neg (by omega)]
theorem ldV_0 (w f : Nat → Int32) : ldV w f 0 = w := by funext j; unfold ldV; rw [if_neg (by omega)]
theorem lt_of_nle {a b : Nat} (ha : a ≤ 1000) (hb : b ≤ 1000) (h : ¬ nI a ≤ nI b) : b < a := nI_lt_of ha hb h

set_option maxHeartbeats 4000000 in
set_option maxRecDepth 20000 in
theorem e_load (l : Launch) (G : GG) (σ : Sg) (hz : szR σ) (x : Int32) : Ct l G mX8_load 2 shT [.ref (ad G 65), .int x] σ (ldQ σ (fun s m r τ => r = some (.int (nI (ldN (nb σ s) m 17 0))) ∧ τ = sR σ (ldV (σ 66) (nb σ s) (ldN (nb σ s) m 17 0))) x) := by
  refine ct_intro (by decide) (Nat.le_of_ble_eq_true rfl) (fun X B R => ?_)
  show V X G shT σ [some (.ref (ad G 65)), some (.int x), none] [] 0
  refine r_aload_n (pc := 0) B dX8_load_0 rfl ?_
  refine r_iload_n (pc := 1) B dX8_load_1 rfl ?_
  refine r_cVi1 (pc := 2) B KX8_187 (e_wants l G _ _) rfl rfl (by decide) (Nat.le_of_ble_eq_true rfl) dX8_load_2 ?_
  rcases wl_cs hz x with ⟨j, hj, hv, hn, hQ⟩ | ⟨s, m, hs1, hs2, hm2, hm1, hb, hv⟩
  · rw [hv]
    refine r_if_eq (pc := 5) B 18 dX8_load_5 (by decide) (fun h5 => ?_) (fun h5 => ?_)
    · skip
      exact absurd h5 hn
    · skip
      refine r_aload_n (pc := 8) B dX8_load_8 rfl ?_
      refine r_aload_n (pc := 9) B dX8_load_9 rfl ?_
      refine r_iload_n (pc := 10) B dX8_load_10 rfl ?_
      refine r_cVi1 (pc := 11) B KX8_187 (e_wants l G _ _) rfl rfl (by decide) (Nat.le_of_ble_eq_true rfl) dX8_load_11 ?_
      rw [hv]
      refine r_cVi1 (pc := 14) B KX8_39 (e_finds l G _ (j := j) rfl hj) rfl rfl (by decide) (Nat.le_of_ble_eq_true rfl) dX8_load_14 ?_
      exact r_iret (pc := 17) B R dX8_load_17 (hQ _)
  · rw [hv]
    refine r_if_eq (pc := 5) B 18 dX8_load_5 (by decide) (fun h5 => ?_) (fun h5 => ?_)
    · skip
      have hJ84 : ∀ k : Nat, (ldN (nb σ s) m 17 0) = k → V X G shT (sR σ (ldV (σ 66) (nb σ s) k)) [some (.ref (ad G 65)), some (.int x), some (.int (nI k))] [] 84 := by
        intro k hk
        refine r_iload_n (pc := 84) B dX8_load_84 rfl ?_
        exact r_iret (pc := 85) B R dX8_load_85 (Or.inr ⟨s, m, hs1, hs2, hm2, hm1, Or.inr ⟨hb, by rw [hk], by rw [hk]⟩⟩)
      refine r_iconst (pc := 18) (x := 0) B dX8_load_18 (by decide) ?_
      refine r_istore_2 (pc := 19) B dX8_load_19 (by decide) rfl ?_
      have hL20 : ∀ (n k : Nat), k + n = 17 → k ≤ 16 → (ldN (nb σ s) m 17 0) = ldN (nb σ s) m n k → V X G shT (sR σ (ldV (σ 66) (nb σ s) k)) [some (.ref (ad G 65)), some (.int x), some (.int (nI k))] [] 20 := by
        intro n
        induction n with
        | zero => intro k h1 h2; omega
        | succ n ih =>
          intro k hkn hk16 hl
          refine r_iload_n (pc := 20) B dX8_load_20 rfl ?_
          refine r_aload_n (pc := 21) B dX8_load_21 rfl ?_
          refine r_getr (pc := 22) B FX8_31 rfl rfl dX8_load_22 ?_
          refine r_iload_n (pc := 25) B dX8_load_25 rfl ?_
          refine r_iald (pc := 26) B rfl (ix_eq hs2 hs1 (by decide)) dX8_load_26 ?_
          rw [show sR σ (ldV (σ 66) (nb σ s) k) 73 s = nI m from hm2]
          refine r_icmp_ge (pc := 27) B 84 dX8_load_27 (by decide) (fun h27 => ?_) (fun h27 => ?_)
          · skip
            have hx : (ldN (nb σ s) m 17 0) = k := by rw [hl, ldN, if_neg (fun q => by have := (nI_leI (a := m) (b := k) (by omega) (by omega)).mp h27; omega)]
            exact hJ84 k hx
          · skip
            have hkm : k < m := lt_of_nle (by omega) (by omega) h27
            refine r_iload_n (pc := 30) B dX8_load_30 rfl ?_
            refine r_bipush (pc := 31) (x := 16) B dX8_load_31 (by decide) ?_
            refine r_icmp_ge (pc := 33) B 84 dX8_load_33 (by decide) (fun h33 => ?_) (fun h33 => ?_)
            · skip
              have hx : (ldN (nb σ s) m 17 0) = k := by rw [hl, ldN, if_neg (fun q => by have := (nI_leI (a := 16) (b := k) (by omega) (by omega)).mp h33; omega)]
              exact hJ84 k hx
            · skip
              have hk6 : k < 16 := lt_of_nle (a := 16) (by omega) (by omega) h33
              refine r_aload_n (pc := 36) B dX8_load_36 rfl ?_
              refine r_getr (pc := 37) B FX8_34 rfl rfl dX8_load_37 ?_
              refine r_bipush (pc := 40) (x := 40) B dX8_load_40 (by decide) ?_
              refine r_iload_n (pc := 42) B dX8_load_42 rfl ?_
              refine r_imul (pc := 43) B dX8_load_43 ?_
              refine r_iload_n (pc := 44) B dX8_load_44 rfl ?_
              refine r_iadd (pc := 45) B dX8_load_45 ?_
              refine r_iald (pc := 46) B rfl (ix_eq (by rw [hs2]; exact nx_nI s hs1 k (by omega)) (by omega) (by decide)) dX8_load_46 ?_
              rw [show sR σ (ldV (σ 66) (nb σ s) k) 74 (40 * s + k) = nb σ s k from rfl]
              refine r_i2l (pc := 47) B dX8_load_47 ?_
              refine r_lconst (pc := 48) (x := 0) B dX8_load_48 rfl ?_
              refine r_ldc2_w (pc := 49) B q835 dX8_load_49 ?_
              refine r_cSi3 (pc := 52) B KX8_49 (e_isIn l G _ _ (v := (nb σ s k)) (a := 0) (b := 99) rfl rfl rfl) (by decide) (Nat.le_of_ble_eq_true rfl) dX8_load_52 ?_
              refine r_if_eq (pc := 55) B 84 dX8_load_55 (by decide) (fun h55 => ?_) (fun h55 => ?_)
              · skip
                have hx : (ldN (nb σ s) m 17 0) = k := by rw [hl, ldN, if_neg (fun q => bI_0.mp h55 q.2.2)]
                exact hJ84 k hx
              · skip
                refine r_aload_n (pc := 58) B dX8_load_58 rfl ?_
                refine r_getr (pc := 59) B FX8_7 rfl rfl dX8_load_59 ?_
                refine r_bipush (pc := 62) (x := 21) B dX8_load_62 (by decide) ?_
                refine r_iload_n (pc := 64) B dX8_load_64 rfl ?_
                refine r_iadd (pc := 65) B dX8_load_65 ?_
                refine r_aload_n (pc := 66) B dX8_load_66 rfl ?_
                refine r_getr (pc := 67) B FX8_34 rfl rfl dX8_load_67 ?_
                refine r_bipush (pc := 70) (x := 40) B dX8_load_70 (by decide) ?_
                refine r_iload_n (pc := 72) B dX8_load_72 rfl ?_
                refine r_imul (pc := 73) B dX8_load_73 ?_
                refine r_iload_n (pc := 74) B dX8_load_74 rfl ?_
                refine r_iadd (pc := 75) B dX8_load_75 ?_
                refine r_iald (pc := 76) B rfl (ix_eq (by rw [hs2]; exact nx_nI s hs1 k (by omega)) (by omega) (by decide)) dX8_load_76 ?_
                rw [show sR σ (ldV (σ 66) (nb σ s) k) 74 (40 * s + k) = nb σ s k from rfl]
                refine r_iast (pc := 77) B rfl (ix_eq (pl_nI (n := 21) rfl) (by omega) (by decide)) dX8_load_77 ?_
                rw [st2_66, sR_sR, sR_66, ldV_s]
                refine r_iinc_2 (pc := 78) (y := _ + 1) B dX8_load_78 rfl (by decide) rfl ?_
                refine r_goto (pc := 81) B 20 dX8_load_81 (by decide) ?_
                rw [nI_1]
                exact ih (k + 1) (by omega) (by omega) (by rw [hl, ldN, if_pos ⟨hkm, hk6, bI_n.mp h55⟩])
      rw [← sR_self σ, ← ldV_0 (σ 66) (nb σ s)]
      exact hL20 17 0 (by omega) (by omega) rfl
    · skip
      exact absurd rfl h5
set_option maxHeartbeats 4000000 in
set_option maxRecDepth 20000 in
theorem e_judge (l : Launch) (G : GG) (σ : Sg) (hz : szR σ) (x : Int32) : Ct l G mX8_judge 2 shT [.ref (ad G 65), .int x] σ (ldQ σ (fun s m r τ => r = some (.int (jdN (nb σ s) (Wd (σ 66)) m (m + 1) 0)) ∧ τ = σ) x) := by
  refine ct_intro (by decide) (Nat.le_of_ble_eq_true rfl) (fun X B R => ?_)
  show V X G shT σ [some (.ref (ad G 65)), some (.int x), none] [] 0
  refine r_aload_n (pc := 0) B dX8_judge_0 rfl ?_
  refine r_iload_n (pc := 1) B dX8_judge_1 rfl ?_
  refine r_cVi1 (pc := 2) B KX8_187 (e_wants l G _ _) rfl rfl (by decide) (Nat.le_of_ble_eq_true rfl) dX8_judge_2 ?_
  rcases wl_cs hz x with ⟨j, hj, hv, hn, hQ⟩ | ⟨s, m, hs1, hs2, hm2, hm1, hb, hv⟩
  · rw [hv]
    refine r_if_eq (pc := 5) B 18 dX8_judge_5 (by decide) (fun h5 => ?_) (fun h5 => ?_)
    · skip
      exact absurd h5 hn
    · skip
      refine r_aload_n (pc := 8) B dX8_judge_8 rfl ?_
      refine r_aload_n (pc := 9) B dX8_judge_9 rfl ?_
      refine r_iload_n (pc := 10) B dX8_judge_10 rfl ?_
      refine r_cVi1 (pc := 11) B KX8_187 (e_wants l G _ _) rfl rfl (by decide) (Nat.le_of_ble_eq_true rfl) dX8_judge_11 ?_
      rw [hv]
      refine r_cVi1 (pc := 14) B KX8_39 (e_finds l G _ (j := j) rfl hj) rfl rfl (by decide) (Nat.le_of_ble_eq_true rfl) dX8_judge_14 ?_
      exact r_iret (pc := 17) B R dX8_judge_17 (hQ _)
  · rw [hv]
    refine r_if_eq (pc := 5) B 18 dX8_judge_5 (by decide) (fun h5 => ?_) (fun h5 => ?_)
    · skip
      have hJ61 : ∀ k : Nat, k ≤ 40 → (jdN (nb σ s) (Wd (σ 66)) m (m + 1) 0) = (if k < m then 1 + nI k else 0) → V X G shT σ [some (.ref (ad G 65)), some (.int x), some (.int (nI k))] [] 61 := by
        intro k hk40 hk
        refine r_iload_n (pc := 61) B dX8_judge_61 rfl ?_
        refine r_aload_n (pc := 62) B dX8_judge_62 rfl ?_
        refine r_getr (pc := 63) B FX8_31 rfl rfl dX8_judge_63 ?_
        refine r_iload_n (pc := 66) B dX8_judge_66 rfl ?_
        refine r_iald (pc := 67) B rfl (ix_eq hs2 hs1 (by decide)) dX8_judge_67 ?_
        rw [hm2]
        refine r_icmp_ge (pc := 68) B 77 dX8_judge_68 (by decide) (fun h68 => ?_) (fun h68 => ?_)
        · skip
          refine r_iconst (pc := 77) (x := 0) B dX8_judge_77 (by decide) ?_
          exact r_iret (pc := 78) B R dX8_judge_78 (Or.inr ⟨s, m, hs1, hs2, hm2, hm1, Or.inr ⟨hb, by first | (rw [hk, if_neg (fun q => by have := (nI_leI (a := m) (b := k) (by omega) (by omega)).mp h68; omega)]) | (rw [hk, if_pos (lt_of_nle (by omega) (by omega) h68)]), rfl⟩⟩)
        · skip
          refine r_iconst (pc := 71) (x := 1) B dX8_judge_71 (by decide) ?_
          refine r_iload_n (pc := 72) B dX8_judge_72 rfl ?_
          refine r_iadd (pc := 73) B dX8_judge_73 ?_
          refine r_goto (pc := 74) B 78 dX8_judge_74 (by decide) ?_
          exact r_iret (pc := 78) B R dX8_judge_78 (Or.inr ⟨s, m, hs1, hs2, hm2, hm1, Or.inr ⟨hb, by first | (rw [hk, if_neg (fun q => by have := (nI_leI (a := m) (b := k) (by omega) (by omega)).mp h68; omega)]) | (rw [hk, if_pos (lt_of_nle (by omega) (by omega) h68)]), rfl⟩⟩)
      refine r_iconst (pc := 18) (x := 0) B dX8_judge_18 (by decide) ?_
      refine r_istore_2 (pc := 19) B dX8_judge_19 (by decide) rfl ?_
      have hL20 : ∀ (n k : Nat), k + n = m + 1 → k ≤ m → (jdN (nb σ s) (Wd (σ 66)) m (m + 1) 0) = jdN (nb σ s) (Wd (σ 66)) m n k → V X G shT σ [some (.ref (ad G 65)), some (.int x), some (.int (nI k))] [] 20 := by
        intro n
        induction n with
        | zero => intro k h1 h2; omega
        | succ n ih =>
          intro k hkn hk16 hl
          refine r_iload_n (pc := 20) B dX8_judge_20 rfl ?_
          refine r_aload_n (pc := 21) B dX8_judge_21 rfl ?_
          refine r_getr (pc := 22) B FX8_31 rfl rfl dX8_judge_22 ?_
          refine r_iload_n (pc := 25) B dX8_judge_25 rfl ?_
          refine r_iald (pc := 26) B rfl (ix_eq hs2 hs1 (by decide)) dX8_judge_26 ?_
          rw [hm2]
          refine r_icmp_ge (pc := 27) B 61 dX8_judge_27 (by decide) (fun h27 => ?_) (fun h27 => ?_)
          · skip
            have hg := (nI_leI (a := m) (b := k) (by omega) (by omega)).mp h27
            have hx : (jdN (nb σ s) (Wd (σ 66)) m (m + 1) 0) = (if k < m then 1 + nI k else 0) := by rw [hl, jdN, if_neg (by omega), if_neg (by omega)]
            exact hJ61 k (by omega) hx
          · skip
            have hkm : k < m := lt_of_nle (by omega) (by omega) h27
            refine r_iload_n (pc := 30) B dX8_judge_30 rfl ?_
            refine r_bipush (pc := 31) (x := 16) B dX8_judge_31 (by decide) ?_
            refine r_icmp_ge (pc := 33) B 61 dX8_judge_33 (by decide) (fun h33 => ?_) (fun h33 => ?_)
            · skip
              have hg := (nI_leI (a := 16) (b := k) (by omega) (by omega)).mp h33
              have hx : (jdN (nb σ s) (Wd (σ 66)) m (m + 1) 0) = (if k < m then 1 + nI k else 0) := by rw [hl, jdN, if_pos hkm, if_neg (fun q => by omega), if_pos hkm]
              exact hJ61 k (by omega) hx
            · skip
              have hk6 : k < 16 := lt_of_nle (a := 16) (by omega) (by omega) h33
              refine r_aload_n (pc := 36) B dX8_judge_36 rfl ?_
              refine r_getr (pc := 37) B FX8_34 rfl rfl dX8_judge_37 ?_
              refine r_bipush (pc := 40) (x := 40) B dX8_judge_40 (by decide) ?_
              refine r_iload_n (pc := 42) B dX8_judge_42 rfl ?_
              refine r_imul (pc := 43) B dX8_judge_43 ?_
              refine r_iload_n (pc := 44) B dX8_judge_44 rfl ?_
              refine r_iadd (pc := 45) B dX8_judge_45 ?_
              refine r_iald (pc := 46) B rfl (ix_eq (by rw [hs2]; exact nx_nI s hs1 k (by omega)) (by omega) (by decide)) dX8_judge_46 ?_
              refine r_aload_n (pc := 47) B dX8_judge_47 rfl ?_
              refine r_iload_n (pc := 48) B dX8_judge_48 rfl ?_
              refine r_cVi1 (pc := 49) B KX8_64 (e_wind l G _ rfl hk6) rfl rfl (by decide) (Nat.le_of_ble_eq_true rfl) dX8_judge_49 ?_
              refine r_icmp_ne (pc := 52) B 61 dX8_judge_52 (by decide) (fun h52 => ?_) (fun h52 => ?_)
              · skip
                have hx : (jdN (nb σ s) (Wd (σ 66)) m (m + 1) 0) = (if k < m then 1 + nI k else 0) := by rw [hl, jdN, if_pos hkm, if_neg (fun q => h52 q.2), if_pos hkm]
                exact hJ61 k (by omega) hx
              · skip
                refine r_iinc_2 (pc := 55) (y := _ + 1) B dX8_judge_55 rfl (by decide) rfl ?_
                refine r_goto (pc := 58) B 20 dX8_judge_58 (by decide) ?_
                rw [nI_1]
                exact ih (k + 1) (by omega) (by omega) (by rw [hl, jdN, if_pos hkm, if_pos ⟨hk6, h52⟩])
      exact hL20 (m + 1) 0 (by omega) (by omega) rfl
    · skip
      exact absurd rfl h5

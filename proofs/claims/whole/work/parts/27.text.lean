/-! the draft's size stays a size -/
theorem upd_0 {w : Nat → Int32} {j : Nat} {v : Int32} (h : j ≠ 0) : upd w j v 0 = w 0 := by rw [upd, if_neg (fun e => h e.symm)]
theorem mkF_0 {by1 : Nat → Int32} {L i u f g : Nat} {t : TS} {w : Nat → Int32} : (mkF by1 L i u f g t w).2.2 0 = w 0 := by
  unfold mkF
  split
  · split
    · exact upd_0 (by omega)
    · rfl
  · rfl
theorem bnR_0 {r : RES} {k : TS → (Nat → Int32) → RES} {x : Int32} (h : r.2.2 0 = x) (hk : ∀ t w, w 0 = x → (k t w).2.2 0 = x) : (bnR r k).2.2 0 = x := by
  unfold bnR
  split
  · exact hk _ _ h
  · exact h
theorem umC_0 {by1 : Nat → Int32} {L n : Nat} {t : TS} {w : Nat → Int32} : (umC by1 L n t w).2.2 0 = w 0 :=
  bnR_0 mkF_0 (fun _ _ h => bnR_0 (mkF_0.trans h) (fun _ _ h => bnR_0 (mkF_0.trans h) (fun _ _ h => mkF_0.trans h)))
theorem itF_0 {by1 : Nat → Int32} {L : Nat} {t : TS} {w : Nat → Int32} {n : Nat} (hn : w 0 = nI n) (h8 : n ≤ 8) : ∃ m, m ≤ 8 ∧ (itF by1 L t w).2.2 0 = nI m := by
  have hcl : (w 0).toNatClampNeg = n := by rw [hn]; exact nI_clamp (by omega)
  unfold itF
  split
  · unfold umF
    rw [hcl]
    split
    · exact ⟨n, h8, hn⟩
    · exact ⟨n + 1, by omega, by rw [umC_0, upd, if_pos rfl]⟩
  · split
    · unfold wnF
      split
      · split
        · exact ⟨n, h8, by show upd (upd w _ _) _ _ 0 = _; rw [upd_0 (by omega), upd_0 (by omega), hn]⟩
        · exact ⟨n, h8, hn⟩
      · exact ⟨n, h8, hn⟩
    · unfold itS rfF weF
      refine ⟨n, h8, ?_⟩
      repeat' split
      all_goals first | exact hn | (show upd w _ _ 0 = _; rw [upd_0 (by omega), hn])

set_option maxHeartbeats 4000000 in
set_option maxRecDepth 20000 in
theorem c_readInto (l : Launch) (G : GG) (σ : Sg) {L : Nat} {w : Nat → Int32} (hz : tpP σ L) (hw : ∀ j, j < 127 → vw 31 σ j = w j) {n0 : Nat} (hn : w 0 = nI n0) (hnb : n0 ≤ 8) : CpI l G mX0_readInto 8 shT [.ref (ad G 54), .ref (ad G 31)] σ (txN (σ 53) L 120 1 (tkF (σ 53) L 0) w).1 (fun τ => (∀ j, j < 127 → vw 31 τ j = (txN (σ 53) L 120 1 (tkF (σ 53) L 0) w).2 j) ∧ ∀ k, (k < 31 ∨ 46 ≤ k) → k ≠ 54 → τ k = σ k) := by
  refine ct_intro (by decide) (Nat.le_of_ble_eq_true rfl) (fun X B R => ?_)
  show V X G shT σ [some (.ref (ad G 54)), some (.ref (ad G 31)), none] [] 0
  refine r_aload_n (pc := 0) B dX0_readInto_0 rfl ?_
  refine r_iconst (pc := 1) (x := 0) B dX0_readInto_1 (by decide) ?_
  refine r_puti (pc := 2) B PX0_15 rfl rfl dX0_readInto_2 ?_
  have h0 : tpP (st2 σ 54 2 0) L := ⟨hz.1, hz.2⟩
  refine r_aload_n (pc := 5) B dX0_readInto_5 rfl ?_
  refine r_cVpv0 (pc := 6) B KX0_28 ((c_readToken l G _ h0.1 h0.2 (Nat.zero_le L) (st2_at _ _ _ _))) rfl rfl (by decide) (Nat.le_of_ble_eq_true rfl) dX0_readInto_6 (fun ρ hr => ?_)
  have hr0 : rdW σ ρ L (tkF (σ 53) L 0) w := by
    have le := tkF_le (by1 := σ 53) (Nat.zero_le L)
    have o : rdO σ ρ := (st2_rdO (rdO.rf σ)).tr hr.2
    exact ⟨hr.1, fun j hj => (vw_rdO o hj).trans (hw j hj), fun k h1 h2 => o k h2, le.2.1, le.2.2⟩
  refine r_iconst (pc := 9) (x := 1) B dX0_readInto_9 (by decide) ?_
  refine r_istore_2 (pc := 10) B dX0_readInto_10 (by decide) rfl ?_
  have hL11 : ∀ (n i m : Nat) (τ : Sg) (t : TS) (x : Nat → Int32), i + n = 121 → 1 ≤ i → rdW σ τ L t x → x 0 = nI m → m ≤ 8 → txN (σ 53) L 120 1 (tkF (σ 53) L 0) w = txN (σ 53) L n i t x → V X G shT τ [some (.ref (ad G 54)), some (.ref (ad G 31)), some (.int (nI i))] [] 11 := by
    intro n
    induction n with
    | zero =>
      intro i m τ t x hi h1 hr hx hm hp
      have ei : i = 121 := by omega
      subst ei
      refine r_iload_n (pc := 11) B dX0_readInto_11 rfl ?_
      refine r_bipush (pc := 12) (x := 120) B dX0_readInto_12 (by decide) ?_
      refine r_icmp_gt (pc := 14) B 66 dX0_readInto_14 (by decide) (fun h14 => ?_) (fun h14 => ?_)
      · skip
        refine r_iconst (pc := 66) (x := (-1)) B dX0_readInto_66 (by decide) ?_
        refine r_aload_n (pc := 67) B dX0_readInto_67 rfl ?_
        refine r_geti (pc := 68) B FX0_9 rfl rfl dX0_readInto_68 ?_
        rw [hr.1.1]
        refine r_isub (pc := 71) B dX0_readInto_71 ?_
        exact r_iret (pc := 72) B R dX0_readInto_72 ⟨by rw [hp]; rfl, by rw [hp]; exact ⟨hr.2.1, hr.2.2.1⟩⟩
      · skip
        exact absurd (by decide) h14
    | succ n ih =>
      intro i m τ t x hi h1 hr hx hm hp
      refine r_iload_n (pc := 11) B dX0_readInto_11 rfl ?_
      refine r_bipush (pc := 12) (x := 120) B dX0_readInto_12 (by decide) ?_
      refine r_icmp_gt (pc := 14) B 66 dX0_readInto_14 (by decide) (fun h14 => ?_) (fun h14 => ?_)
      · skip
        exact absurd ((nI_ltI (a := 120) (by omega) (by omega)).mp h14) (by omega)
      · skip
        refine r_aload_n (pc := 17) B dX0_readInto_17 rfl ?_
        refine r_aload_n (pc := 18) B dX0_readInto_18 rfl ?_
        refine r_cVpi1 (pc := 19) B KX0_31 (c_readItem l G hz hr hx hm) rfl rfl (by decide) (Nat.le_of_ble_eq_true rfl) dX0_readInto_19 (fun τ2 hr2 => ?_)
        refine r_if_ne (pc := 22) B 32 dX0_readInto_22 (by decide) (fun h22 => ?_) (fun h22 => ?_)
        · skip
          have hok := bI_n.mp h22
          refine r_aload_n (pc := 32) B dX0_readInto_32 rfl ?_
          refine r_geti (pc := 33) B FX0_18 rfl rfl dX0_readInto_33 ?_
          rw [hr2.1.2.2.1]
          refine r_if_ne (pc := 36) B 41 dX0_readInto_36 (by decide) (fun h36 => ?_) (fun h36 => ?_)
          · skip
            refine r_aload_n (pc := 41) B dX0_readInto_41 rfl ?_
            refine r_geti (pc := 42) B FX0_18 rfl rfl dX0_readInto_42 ?_
            rw [hr2.1.2.2.1]
            refine r_iconst (pc := 45) (x := 3) B dX0_readInto_45 (by decide) ?_
            refine r_icmp_eq (pc := 46) B 56 dX0_readInto_46 (by decide) (fun h46 => ?_) (fun h46 => ?_)
            · skip
              refine r_aload_n (pc := 56) B dX0_readInto_56 rfl ?_
              refine r_cVpv0 (pc := 57) B KX0_28 (c_rdT l G hz hr2) rfl rfl (by decide) (Nat.le_of_ble_eq_true rfl) dX0_readInto_57 (fun τ3 hr3 => ?_)
              refine r_iinc_2 (pc := 60) (y := _ + 1) B dX0_readInto_60 rfl (by decide) rfl ?_
              refine r_goto (pc := 63) B 11 dX0_readInto_63 (by decide) ?_
              rw [nI_1]
              obtain ⟨m2, hm2, hx2⟩ := itF_0 (by1 := σ 53) (L := L) (t := t) hx hm
              exact ih (i + 1) m2 _ _ _ (by omega) (by omega) hr3 hx2 hm2 (by rw [hp, txN, if_pos hok, if_neg h36, if_pos h46])
            · skip
              refine r_iconst (pc := 49) (x := (-1)) B dX0_readInto_49 (by decide) ?_
              refine r_aload_n (pc := 50) B dX0_readInto_50 rfl ?_
              refine r_geti (pc := 51) B FX0_9 rfl rfl dX0_readInto_51 ?_
              rw [hr2.1.1]
              refine r_isub (pc := 54) B dX0_readInto_54 ?_
              exact r_iret (pc := 55) B R dX0_readInto_55 ⟨by rw [hp, txN, if_pos hok, if_neg h36, if_neg h46], by rw [hp, txN, if_pos hok, if_neg h36, if_neg h46]; exact ⟨hr2.2.1, hr2.2.2.1⟩⟩
          · skip
            refine r_iload_n (pc := 39) B dX0_readInto_39 rfl ?_
            exact r_iret (pc := 40) B R dX0_readInto_40 ⟨by rw [hp, txN, if_pos hok, if_pos h36], by rw [hp, txN, if_pos hok, if_pos h36]; exact ⟨hr2.2.1, hr2.2.2.1⟩⟩
        · skip
          have hok : ¬ (itF (σ 53) L t x).1 = true := bI_0.mp h22
          refine r_iconst (pc := 25) (x := (-1)) B dX0_readInto_25 (by decide) ?_
          refine r_aload_n (pc := 26) B dX0_readInto_26 rfl ?_
          refine r_geti (pc := 27) B FX0_9 rfl rfl dX0_readInto_27 ?_
          rw [hr2.1.1]
          refine r_isub (pc := 30) B dX0_readInto_30 ?_
          exact r_iret (pc := 31) B R dX0_readInto_31 ⟨by rw [hp, txN, if_neg hok], by rw [hp, txN, if_neg hok]; exact ⟨hr2.2.1, hr2.2.2.1⟩⟩
  exact hL11 120 1 n0 ρ _ w (by omega) (by omega) hr0 hn hnb rfl
/-- a TEXT's answer and row -/
def txA (σ : Sg) (L : Nat) : Int32 × (Nat → Int32) := txN (σ 53) L 120 1 (tkF (σ 53) L 0) (vw 1 σ)

set_option maxHeartbeats 4000000 in
set_option maxRecDepth 20000 in
theorem c_text (l : Launch) (G : GG) (σ : Sg) {N L : Nat} (hN8 : N ≤ 8) (hN : σ 1 2 = nI N) (hz : tpP σ L) : Ct l G mX7_text 9 shT [.ref (ad G 0)] σ (fun r τ => r = some (.int (txA σ L).1) ∧ (∀ j, j < 127 → vw 1 τ j = if (txA σ L).1 < 0 then vw 1 σ j else (txA σ L).2 j) ∧ τ 52 1 = 0 ∧ ∀ k, 16 ≤ k → (k < 31 ∨ 46 ≤ k) → k ≠ 52 → k ≠ 54 → τ k = σ k) := by
  refine ct_intro (by decide) (Nat.le_of_ble_eq_true rfl) (fun X B R => ?_)
  show V X G shT σ [some (.ref (ad G 0)), none] [] 0
  refine r_aload_n (pc := 0) B dX7_text_0 rfl ?_
  refine r_getr (pc := 1) B FX7_19 rfl rfl dX7_text_1 ?_
  refine r_aload_n (pc := 4) B dX7_text_4 rfl ?_
  refine r_getr (pc := 5) B FX7_10 rfl rfl dX7_text_5 ?_
  refine r_cVpv1 (pc := 8) B KX7_209 (c_become l G _ W31 W1 (by decide)) rfl rfl (by decide) (Nat.le_of_ble_eq_true rfl) dX7_text_8 (fun ρ h1 => ?_)
  have e53 : ρ 53 = σ 53 := h1.2 53 (by omega)
  have hz1 : tpP ρ L := ⟨hz.1, by rw [h1.2 52 (by omega)]; exact hz.2⟩
  refine r_aload_n (pc := 11) B dX7_text_11 rfl ?_
  refine r_getr (pc := 12) B FX7_45 rfl rfl dX7_text_12 ?_
  refine r_aload_n (pc := 15) B dX7_text_15 rfl ?_
  refine r_getr (pc := 16) B FX7_19 rfl rfl dX7_text_16 ?_
  refine r_cVpi1 (pc := 19) B KX7_213 (c_readInto l G _ hz1 h1.1 (n0 := N) (by rw [vw_0]; exact hN) hN8) rfl rfl (by decide) (Nat.le_of_ble_eq_true rfl) dX7_text_19 (fun ρ2 h2 => ?_)
  rw [e53] at h2
  rw [e53]
  refine r_istore_1 (pc := 22) B dX7_text_22 (by decide) rfl ?_
  refine r_aload_n (pc := 23) B dX7_text_23 rfl ?_
  refine r_getr (pc := 24) B FX7_36 rfl rfl dX7_text_24 ?_
  refine r_iconst (pc := 27) (x := 0) B dX7_text_27 (by decide) ?_
  refine r_puti (pc := 28) B PX7_203 rfl rfl dX7_text_28 ?_
  obtain ⟨ρ3, h3⟩ : ∃ ρ3, ρ3 = st2 ρ2 52 1 0 := ⟨_, rfl⟩
  rw [← h3]
  have k3 : ∀ k, k ≠ 52 → ρ3 k = ρ2 k := fun k hk => by rw [h3]; exact st2_cl _ _ _ _ hk
  have o3 : ∀ k, (k < 31 ∨ 46 ≤ k) → k ≠ 52 → k ≠ 54 → ρ3 k = σ k := fun k a b c => by rw [k3 k b, h2.2 k a c, h1.2 k (by omega)]
  have v1 : ∀ j, j < 127 → vw 1 ρ3 j = vw 1 σ j := fun j hj => by
    have hc : (lcO j).1 < 15 := by rcases lc_cell j with q | q <;> (try exact q); have e := lc_p (k := j - 117) (by omega); rw [show 117 + (j - 117) = j by omega] at e; rw [e]; omega
    unfold vw; rw [o3 _ (by omega) (by omega) (by omega)]
  have v31 : ∀ j, j < 127 → vw 31 ρ3 j = (txA σ L).2 j := fun j hj => by
    refine Eq.trans ?_ (h2.1 j hj)
    have hc : (lcO j).1 < 15 := by rcases lc_cell j with q | q <;> (try exact q); have e := lc_p (k := j - 117) (by omega); rw [show 117 + (j - 117) = j by omega] at e; rw [e]; omega
    unfold vw; rw [k3 _ (by omega)]
  have t3 : ρ3 52 1 = 0 := by rw [h3, st2_at]
  refine r_iload_n (pc := 31) B dX7_text_31 rfl ?_
  refine r_if_lt (pc := 32) B 46 dX7_text_32 (by decide) (fun h32 => ?_) (fun h32 => ?_)
  · skip
    have ha : (txA σ L).1 < 0 := h32
    refine r_iload_n (pc := 46) B dX7_text_46 rfl ?_
    exact r_iret (pc := 47) B R dX7_text_47 (by first | exact ⟨rfl, fun j hj => by rw [if_pos ha]; exact v1 j hj, t3, fun k _ a b c => o3 k a b c⟩ | exact ⟨rfl, fun j hj => by rw [if_neg ha, h4.1 j hj]; exact v31 j hj, by rw [h4.2 52 (by omega)]; exact t3, fun k q a b c => by rw [h4.2 k (by omega)]; exact o3 k a b c⟩)
  · skip
    have ha : ¬ (txA σ L).1 < 0 := h32
    refine r_aload_n (pc := 35) B dX7_text_35 rfl ?_
    refine r_getr (pc := 36) B FX7_10 rfl rfl dX7_text_36 ?_
    refine r_aload_n (pc := 39) B dX7_text_39 rfl ?_
    refine r_getr (pc := 40) B FX7_19 rfl rfl dX7_text_40 ?_
    refine r_cVpv1 (pc := 43) B KX7_209 (c_become l G _ W1 W31 (by decide)) rfl rfl (by decide) (Nat.le_of_ble_eq_true rfl) dX7_text_43 (fun ρ4 h4 => ?_)
    refine r_iload_n (pc := 46) B dX7_text_46 rfl ?_
    exact r_iret (pc := 47) B R dX7_text_47 (by first | exact ⟨rfl, fun j hj => by rw [if_pos ha]; exact v1 j hj, t3, fun k _ a b c => o3 k a b c⟩ | exact ⟨rfl, fun j hj => by rw [if_neg ha, h4.1 j hj]; exact v31 j hj, by rw [h4.2 52 (by omega)]; exact t3, fun k q a b c => by rw [h4.2 k (by omega)]; exact o3 k a b c⟩)

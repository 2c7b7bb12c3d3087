/-! ranges stay; the ticks -/
theorem rg_at : ∀ j, j < 16 → ∀ c, c < 3 → withinP (mn 16 (nI j + nI c)) 16 := by decide +kernel
theorem rg_rb : ∀ r, r < 9 → withinP (mx 0 (nI r - 1)) 8 := by decide +kernel
theorem rg_tn : ∀ t, t < 1000 → withinP (mn 999 (nI t + 1)) 999 := by decide +kernel
theorem rg_wet {a r d : Nat} (ha : a ≤ 99999) (hr : r ≤ 99) (hd : d ≤ r) : withinP (mn 99999 (nI a + nI r - nI d)) 99999 := by
  have e : nI a + nI r - nI d = nI (a + r - d) := by
    have h : nI a + nI r = nI (a + r - d) + nI d := by rw [nI_add, nI_add]; congr 1; omega
    rw [h, Int32.add_sub_cancel]
  rw [e]
  unfold mn
  split
  · rename_i q
    exact nI_wi (g := 99999) (by decide) (by have := (nI_ltI (a := a + r - d) (b := 99999) (by omega) (by decide)).mp q; omega)
  · exact ⟨by decide, by decide⟩
theorem cov_rg {r : Nat} (hr : r ≤ 99) (t k w : Int32) : ∃ d, d ≤ r ∧ covF (nI r) t k w = nI d := by
  obtain ⟨k1, k2, k3, k4, k5, k6⟩ := cv_le r (by omega)
  have z : withinP 0 (nI r) := nI_wi (a := 0) (by omega) (by omega)
  refine wi_nI (by omega) ?_
  unfold covF
  split
  · exact k1
  split
  · exact k2
  split
  · exact k3
  split
  · split
    · exact k3
    · exact z
  split
  · split
    · exact k5
    · exact z
  split
  · exact k6
  · exact k4
theorem pace_rg (t k : Int32) : ∃ c, c < 3 ∧ paceF t k = nI c := by
  unfold paceF
  split
  · split
    · exact ⟨1, by decide, rfl⟩
    · exact ⟨0, by decide, rfl⟩
  · split
    · exact ⟨2, by decide, rfl⟩
    · exact ⟨1, by decide, rfl⟩
theorem goW_rg {w : Nat → Int32} {u j : Nat} (hu : u < 8) (hj : j < 16) (hp : w (53 + 8 * u + 1) = nI j) (hW : WR w) : ∀ i, i < 8 → withinP (goW w u j i) (gK i) := by
  intro i hi
  have b := fun i (h : i < 8) => hW.2.2.2 u i hu h
  match i, hi with
  | 0, h => exact b 0 h
  | 1, h =>
    show withinP (if Ot w u j = 0 then mn 16 (um w u 1 + paceF (w 1) (um w u 0)) else um w u 1) 16
    split
    · obtain ⟨c, hc, e⟩ := pace_rg (w 1) (um w u 0)
      rw [e, show um w u 1 = nI j from hp]; exact rg_at j hj c hc
    · exact b 1 h
  | 2, h => exact hd_rg hu hj hW
  | 3, h => exact b 3 h
  | 4, h =>
    show withinP (if Go w u j then mx 0 (um w u 4 - 1) else um w u 4) 8
    split
    · obtain ⟨r, hr, e⟩ := wi_nI (g := 8) (by decide) (b 4 h)
      rw [show um w u 4 = nI r from e]; exact rg_rb r (by omega)
    · exact b 4 h
  | 5, h =>
    show withinP (Ot w u j) 1
    rcases ot_01 (j := j) hu hW with q | q <;> rw [q] <;> exact ⟨by decide, by decide⟩
  | 6, h =>
    show withinP (if Go w u j then mn 999 (um w u 6 + 1) else um w u 6) 999
    split
    · obtain ⟨r, hr, e⟩ := wi_nI (g := 999) (by decide) (b 6 h)
      rw [show um w u 6 = nI r from e]; exact rg_tn r (by omega)
    · exact b 6 h
  | 7, h =>
    show withinP (if w (37 + j) = 0 then mn 99999 (um w u 7 + w 3 - (if Hd w u j = 3 ∨ Ot w u j = 1 then 0 else covF (w 3) (w 1) (um w u 0) (um w u 7))) else um w u 7) 99999
    split
    · obtain ⟨a, ha, e⟩ := wi_nI (g := 99999) (by decide) (b 7 h)
      obtain ⟨r, hr, e2⟩ := wi_nI (g := 99) (by decide) hW.1
      obtain ⟨d, hd, e3⟩ := cov_rg hr (w 1) (um w u 0) (um w u 7)
      rw [show um w u 7 = nI a from e, e2]
      split
      · exact rg_wet (d := 0) ha hr (by omega)
      · rw [show um w u 7 = nI a from e] at e3; rw [e3]; exact rg_wet ha hr hd
    · exact b 7 h
theorem goV_hm {w : Nat → Int32} {u : Nat} (h : w (53 + 8 * u + 1) = 16) : goV w u = w ∧ ¬ gsP w u := by
  have q : ¬ stepP (w (53 + 8 * u + 1)) := by rw [h]; decide
  exact ⟨by unfold goV; rw [if_neg q], fun z => q z.1⟩
theorem at_cs {w : Nat → Int32} {u : Nat} (hu : u < 8) (hW : WR w) (h : ¬ w (53 + 8 * u + 1) = 16) : ∃ j, j < 16 ∧ w (53 + 8 * u + 1) = nI j := by
  obtain ⟨j, hj, e⟩ := wi_nI (g := 16) (by decide) (hW.2.2.2 u 1 hu (by omega))
  exact ⟨j, by rcases Nat.lt_or_ge j 16 with q | q <;> first | exact q | exact absurd (by rw [e, show j = 16 by omega]; rfl) h, e⟩
theorem goV_WR {w : Nat → Int32} {u : Nat} (hu : u < 8) (hW : WR w) : WR (goV w u) := by
  by_cases h : w (53 + 8 * u + 1) = 16
  · rw [(goV_hm h).1]; exact hW
  · obtain ⟨j, hj, hp⟩ := at_cs hu hW h
    rw [goV_at hj hp]
    have lo : ∀ k, k < 53 → putU w u (goW w u j) k = w k := fun k hk => by unfold putU; rw [if_neg (by omega)]
    refine ⟨by rw [lo _ (by omega)]; exact hW.1, by rw [lo _ (by omega)]; exact hW.2.1, fun k hk => ?_, fun v i hv hi => ?_⟩
    · rw [lo _ (by omega), lo _ (by omega), lo _ (by omega)]; exact hW.2.2.1 k hk
    · unfold putU
      by_cases e : v = u
      · subst e
        rw [if_pos (by omega), show 53 + 8 * v + i - (53 + 8 * v) = i by omega]
        exact goW_rg hu hj hp hW i hi
      · rw [if_neg (by omega)]; exact hW.2.2.2 v i hv hi
theorem goN_WR {w : Nat → Int32} (hW : WR w) : ∀ n, n ≤ 8 → WR (goN w n)
  | 0, _ => hW
  | n + 1, h => goV_WR (by omega) (goN_WR hW n (by omega))
theorem WR_t {w : Nat → Int32} (hW : WR w) {k : Nat} (hk : k < 3 ∨ 117 ≤ k) (v : Int32) : WR (upd w k v) := by
  refine ⟨?_, ?_, fun k' hk' => ?_, fun u i hu hi => ?_⟩
  · rw [upd, if_neg (by omega)]; exact hW.1
  · rw [upd, if_neg (by omega)]; exact hW.2.1
  · rw [upd, if_neg (by omega), upd, if_neg (by omega), upd, if_neg (by omega)]; exact hW.2.2.1 k' hk'
  · rw [upd, if_neg (by omega)]; exact hW.2.2.2 u i hu hi
theorem mn_tk {t : Nat} (h : t < 99999) : mn 99999 (nI t + 1) = nI t + 1 := by
  rw [nI_1]
  unfold mn
  by_cases q : t + 1 = 99999
  · rw [q]; rfl
  · rw [if_pos (show nI (t + 1) < 99999 from (nI_ltI (a := t + 1) (b := 99999) (by omega) (by decide)).mpr (by omega))]
def alT (w : Nat → Int32) (u : Nat) : Nat → Int32 := upd (goV w u) 1 (w 1 + 1)
theorem goV_lo {w : Nat → Int32} {u k : Nat} (h : k < 53 ∨ 117 ≤ k) (hu : u < 8) : goV w u k = w k := by
  unfold goV
  split
  · unfold putU; rw [if_neg (by omega)]
  · rfl
theorem or_0 (x : Int32) : x ||| 0 = x := by simp
theorem sh_0 : ∀ i, i < 16 → (0 : Int32) <<< (nI i &&& 31) = 0 := by decide +kernel

set_option maxHeartbeats 4000000 in
set_option maxRecDepth 20000 in
theorem e_goesAlone (l : Launch) (G : GG) (σ : Sg) {u : Nat} {x : Int32} (hx : x = nI u) (hu : u < 8) (hW : WR (σ 66)) : CtV l G mX8_goesAlone 5 shT [.ref (ad G 65), .int x] σ (sR σ (alT (σ 66) u)) := by
  subst hx
  refine ct_intro (by decide) (Nat.le_of_ble_eq_true rfl) (fun X B R => ?_)
  show V X G shT σ [some (.ref (ad G 65)), some (.int (nI u)), none] [] 0
  refine r_aload_n (pc := 0) B dX8_goesAlone_0 rfl ?_
  refine r_iload_n (pc := 1) B dX8_goesAlone_1 rfl ?_
  refine r_cVi1 (pc := 2) B KX8_113 (e_isHome l G _ rfl hu) rfl rfl (by decide) (Nat.le_of_ble_eq_true rfl) dX8_goesAlone_2 ?_
  refine r_if_ne (pc := 5) B 20 dX8_goesAlone_5 (by decide) (fun h5 => ?_) (fun h5 => ?_)
  · skip
    have hm : σ 66 (53 + 8 * u + 1) = 16 := bI_n.mp (by grind)
    have eg := (goV_hm hm).1
    refine r_iconst (pc := 20) (x := 0) B dX8_goesAlone_20 (by decide) ?_
    refine r_istore_2 (pc := 21) B dX8_goesAlone_21 (by decide) rfl ?_
    refine r_aload_n (pc := 22) B dX8_goesAlone_22 rfl ?_
    refine r_getr (pc := 23) B FX8_7 rfl rfl dX8_goesAlone_23 ?_
    refine r_iconst (pc := 26) (x := 1) B dX8_goesAlone_26 (by decide) ?_
    refine r_dup2 (pc := 27) B rfl rfl dX8_goesAlone_27 ?_
    refine r_iald (pc := 28) B rfl (ix_of 1 rfl) dX8_goesAlone_28 ?_
    refine r_iconst (pc := 29) (x := 1) B dX8_goesAlone_29 (by decide) ?_
    refine r_iadd (pc := 30) B dX8_goesAlone_30 ?_
    refine r_iast (pc := 31) B rfl (ix_of 1 rfl) dX8_goesAlone_31 ?_
    rw [st2_66]
    exact r_vret (pc := 32) B R dX8_goesAlone_32 ⟨rfl, by first | (rw [sR_sR, sR_66, goV_lo (by omega) hu]; rfl) | (rw [alT, eg])⟩
  · skip
    have hm : ¬ σ 66 (53 + 8 * u + 1) = 16 := bI_0.mp (by grind)
    obtain ⟨j, hj, hp⟩ := at_cs hu hW hm
    refine r_aload_n (pc := 8) B dX8_goesAlone_8 rfl ?_
    refine r_iload_n (pc := 9) B dX8_goesAlone_9 rfl ?_
    refine r_cVi1 (pc := 10) B KX8_116 (e_goesOn l G _ rfl hu hj hp hW) rfl rfl (by decide) (Nat.le_of_ble_eq_true rfl) dX8_goesAlone_10 ?_
    refine r_bz_if_eq (pc := 13) B dX8_goesAlone_13 dX8_goesAlone_16 dX8_goesAlone_17 dX8_goesAlone_20 ?_
    refine r_istore_2 (pc := 21) B dX8_goesAlone_21 (by decide) rfl ?_
    refine r_aload_n (pc := 22) B dX8_goesAlone_22 rfl ?_
    refine r_getr (pc := 23) B FX8_7 rfl rfl dX8_goesAlone_23 ?_
    refine r_iconst (pc := 26) (x := 1) B dX8_goesAlone_26 (by decide) ?_
    refine r_dup2 (pc := 27) B rfl rfl dX8_goesAlone_27 ?_
    refine r_iald (pc := 28) B rfl (ix_of 1 rfl) dX8_goesAlone_28 ?_
    refine r_iconst (pc := 29) (x := 1) B dX8_goesAlone_29 (by decide) ?_
    refine r_iadd (pc := 30) B dX8_goesAlone_30 ?_
    refine r_iast (pc := 31) B rfl (ix_of 1 rfl) dX8_goesAlone_31 ?_
    rw [st2_66]
    exact r_vret (pc := 32) B R dX8_goesAlone_32 ⟨rfl, by first | (rw [sR_sR, sR_66, goV_lo (by omega) hu]; rfl) | (rw [alT, eg])⟩
set_option maxHeartbeats 4000000 in
set_option maxRecDepth 20000 in
theorem e_homes (l : Launch) (G : GG) (σ : Sg) {N : Nat} (hN8 : N ≤ 8) (hN : σ 66 0 = nI N) : CtI l G mX8_homes 2 shT [.ref (ad G 65)] σ (orS (fun u => σ 66 (53 + 8 * u + 1) = 16) (fun _ => inferInstance) N) σ := by
  refine ct_intro (by decide) (Nat.le_of_ble_eq_true rfl) (fun X B R => ?_)
  show V X G shT σ [some (.ref (ad G 65)), none, none] [] 0
  refine r_iconst (pc := 0) (x := 0) B dX8_homes_0 (by decide) ?_
  refine r_istore_1 (pc := 1) B dX8_homes_1 (by decide) rfl ?_
  refine r_iconst (pc := 2) (x := 0) B dX8_homes_2 (by decide) ?_
  refine r_istore_2 (pc := 3) B dX8_homes_3 (by decide) rfl ?_
  have hL4 : ∀ (n i : Nat) (q : Int32), i ≤ N → N + 1 ≤ i + n → q = orS (fun u => σ 66 (53 + 8 * u + 1) = 16) (fun _ => inferInstance) i → V X G shT σ [some (.ref (ad G 65)), some (.int q), some (.int (nI i))] [] 4 := by
    intro n
    induction n with
    | zero => intro i q h1 h2; omega
    | succ n ih =>
      intro i q hi hn hq
      refine r_iload_n (pc := 4) B dX8_homes_4 rfl ?_
      refine r_aload_n (pc := 5) B dX8_homes_5 rfl ?_
      refine r_getr (pc := 6) B FX8_7 rfl rfl dX8_homes_6 ?_
      refine r_iconst (pc := 9) (x := 0) B dX8_homes_9 (by decide) ?_
      refine r_iald (pc := 10) B rfl (ix_of 0 rfl) dX8_homes_10 ?_
      rw [hN]
      refine r_icmp_ge (pc := 11) B 38 dX8_homes_11 (by decide) (fun h11 => ?_) (fun h11 => ?_)
      · skip
        have eN : i = N := by have := nI_ge_of (by omega) (by omega) h11; omega
        subst eN
        refine r_iload_n (pc := 38) B dX8_homes_38 rfl ?_
        exact r_iret (pc := 39) B R dX8_homes_39 ⟨by rw [hq], rfl⟩
      · skip
        have hiN : i < N := nI_lt_of (by omega) (by omega) h11
        have hi8 : i < 8 := by omega
        refine r_iload_n (pc := 14) B dX8_homes_14 rfl ?_
        refine r_aload_n (pc := 15) B dX8_homes_15 rfl ?_
        refine r_iload_n (pc := 16) B dX8_homes_16 rfl ?_
        refine r_cVi1 (pc := 17) B KX8_113 (e_isHome l G _ rfl hi8) rfl rfl (by decide) (Nat.le_of_ble_eq_true rfl) dX8_homes_17 ?_
        refine r_if_eq (pc := 20) B 29 dX8_homes_20 (by decide) (fun h20 => ?_) (fun h20 => ?_)
        · skip
          refine r_iconst (pc := 29) (x := 0) B dX8_homes_29 (by decide) ?_
          refine r_ior (pc := 30) B dX8_homes_30 ?_
          refine r_istore_1 (pc := 31) B dX8_homes_31 (by decide) rfl ?_
          refine r_iinc_2 (pc := 32) (y := _ + 1) B dX8_homes_32 rfl (by decide) rfl ?_
          refine r_goto (pc := 35) B 4 dX8_homes_35 (by decide) ?_
          rw [nI_1]
          exact ih (i + 1) _ hiN (by omega) (by first | (have hm := bI_n.mp h20; rw [orS, if_pos hm, hq]) | (have hm := bI_0.mp h20; rw [orS, if_neg hm, hq, or_0]))
        · skip
          refine r_iconst (pc := 23) (x := 1) B dX8_homes_23 (by decide) ?_
          refine r_iload_n (pc := 24) B dX8_homes_24 rfl ?_
          refine r_ishl (pc := 25) B dX8_homes_25 ?_
          refine r_goto (pc := 26) B 30 dX8_homes_26 (by decide) ?_
          refine r_ior (pc := 30) B dX8_homes_30 ?_
          refine r_istore_1 (pc := 31) B dX8_homes_31 (by decide) rfl ?_
          refine r_iinc_2 (pc := 32) (y := _ + 1) B dX8_homes_32 rfl (by decide) rfl ?_
          refine r_goto (pc := 35) B 4 dX8_homes_35 (by decide) ?_
          rw [nI_1]
          exact ih (i + 1) _ hiN (by omega) (by first | (have hm := bI_n.mp h20; rw [orS, if_pos hm, hq]) | (have hm := bI_0.mp h20; rw [orS, if_neg hm, hq, or_0]))
  exact hL4 (N + 1) 0 0 (by omega) (by omega) rfl
set_option maxHeartbeats 4000000 in
set_option maxRecDepth 20000 in
theorem e_there (l : Launch) (G : GG) (σ : Sg) {N : Nat} (hN8 : N ≤ 8) (hN : σ 66 0 = nI N) (p : Int32) : CtI l G mX8_there 1 shT [.ref (ad G 65), .int p] σ (orS (fun u => σ 66 (53 + 8 * u + 1) = p) (fun _ => inferInstance) N) σ := by
  refine ct_intro (by decide) (Nat.le_of_ble_eq_true rfl) (fun X B R => ?_)
  show V X G shT σ [some (.ref (ad G 65)), some (.int p), none, none] [] 0
  refine r_iconst (pc := 0) (x := 0) B dX8_there_0 (by decide) ?_
  refine r_istore_2 (pc := 1) B dX8_there_1 (by decide) rfl ?_
  refine r_iconst (pc := 2) (x := 0) B dX8_there_2 (by decide) ?_
  refine r_istore_3 (pc := 3) B dX8_there_3 (by decide) rfl ?_
  have hL4 : ∀ (n i : Nat) (q : Int32), i ≤ N → N + 1 ≤ i + n → q = orS (fun u => σ 66 (53 + 8 * u + 1) = p) (fun _ => inferInstance) i → V X G shT σ [some (.ref (ad G 65)), some (.int p), some (.int q), some (.int (nI i))] [] 4 := by
    intro n
    induction n with
    | zero => intro i q h1 h2; omega
    | succ n ih =>
      intro i q hi hn hq
      refine r_iload_n (pc := 4) B dX8_there_4 rfl ?_
      refine r_aload_n (pc := 5) B dX8_there_5 rfl ?_
      refine r_getr (pc := 6) B FX8_7 rfl rfl dX8_there_6 ?_
      refine r_iconst (pc := 9) (x := 0) B dX8_there_9 (by decide) ?_
      refine r_iald (pc := 10) B rfl (ix_of 0 rfl) dX8_there_10 ?_
      rw [hN]
      refine r_icmp_ge (pc := 11) B 40 dX8_there_11 (by decide) (fun h11 => ?_) (fun h11 => ?_)
      · skip
        have eN : i = N := by have := nI_ge_of (by omega) (by omega) h11; omega
        subst eN
        refine r_iload_n (pc := 40) B dX8_there_40 rfl ?_
        exact r_iret (pc := 41) B R dX8_there_41 ⟨by rw [hq], rfl⟩
      · skip
        have hiN : i < N := nI_lt_of (by omega) (by omega) h11
        have hi8 : i < 8 := by omega
        refine r_iload_n (pc := 14) B dX8_there_14 rfl ?_
        refine r_aload_n (pc := 15) B dX8_there_15 rfl ?_
        refine r_iload_n (pc := 16) B dX8_there_16 rfl ?_
        refine r_iconst (pc := 17) (x := 1) B dX8_there_17 (by decide) ?_
        refine r_cVi2 (pc := 18) B KX8_59 (e_its l G _ (u := i) (i := 1) rfl rfl hi8 (by decide)) rfl rfl (by decide) (Nat.le_of_ble_eq_true rfl) dX8_there_18 ?_
        refine r_iload_n (pc := 21) B dX8_there_21 rfl ?_
        refine r_icmp_ne (pc := 22) B 31 dX8_there_22 (by decide) (fun h22 => ?_) (fun h22 => ?_)
        · skip
          refine r_iconst (pc := 31) (x := 0) B dX8_there_31 (by decide) ?_
          refine r_ior (pc := 32) B dX8_there_32 ?_
          refine r_istore_2 (pc := 33) B dX8_there_33 (by decide) rfl ?_
          refine r_iinc_3 (pc := 34) (y := _ + 1) B dX8_there_34 rfl (by decide) rfl ?_
          refine r_goto (pc := 37) B 4 dX8_there_37 (by decide) ?_
          rw [nI_1]
          exact ih (i + 1) _ hiN (by omega) (by first | (rw [orS, if_pos (Classical.not_not.mp h22), hq]) | (rw [orS, if_neg h22, hq, or_0]) | (rw [orS, if_pos h22, hq]))
        · skip
          refine r_iconst (pc := 25) (x := 1) B dX8_there_25 (by decide) ?_
          refine r_iload_n (pc := 26) B dX8_there_26 rfl ?_
          refine r_ishl (pc := 27) B dX8_there_27 ?_
          refine r_goto (pc := 28) B 32 dX8_there_28 (by decide) ?_
          refine r_ior (pc := 32) B dX8_there_32 ?_
          refine r_istore_2 (pc := 33) B dX8_there_33 (by decide) rfl ?_
          refine r_iinc_3 (pc := 34) (y := _ + 1) B dX8_there_34 rfl (by decide) rfl ?_
          refine r_goto (pc := 37) B 4 dX8_there_37 (by decide) ?_
          rw [nI_1]
          exact ih (i + 1) _ hiN (by omega) (by first | (rw [orS, if_pos (Classical.not_not.mp h22), hq]) | (rw [orS, if_neg h22, hq, or_0]) | (rw [orS, if_pos h22, hq]))
  exact hL4 (N + 1) 0 0 (by omega) (by omega) rfl
set_option maxHeartbeats 4000000 in
set_option maxRecDepth 20000 in
theorem e_sumOf (l : Launch) (G : GG) (σ : Sg) {N : Nat} (hN8 : N ≤ 8) (hN : σ 66 0 = nI N) {f : Nat} {y : Int32} (hy : y = nI f) (hf : f < 8) : CtI l G mX8_sumOf 1 shT [.ref (ad G 65), .int y] σ (sumS (fun u => σ 66 (53 + 8 * u + f)) N) σ := by
  subst hy
  refine ct_intro (by decide) (Nat.le_of_ble_eq_true rfl) (fun X B R => ?_)
  show V X G shT σ [some (.ref (ad G 65)), some (.int (nI f)), none, none] [] 0
  refine r_iconst (pc := 0) (x := 0) B dX8_sumOf_0 (by decide) ?_
  refine r_istore_2 (pc := 1) B dX8_sumOf_1 (by decide) rfl ?_
  refine r_iconst (pc := 2) (x := 0) B dX8_sumOf_2 (by decide) ?_
  refine r_istore_3 (pc := 3) B dX8_sumOf_3 (by decide) rfl ?_
  have hL4 : ∀ (n i : Nat) (q : Int32), i ≤ N → N + 1 ≤ i + n → q = sumS (fun u => σ 66 (53 + 8 * u + f)) i → V X G shT σ [some (.ref (ad G 65)), some (.int (nI f)), some (.int q), some (.int (nI i))] [] 4 := by
    intro n
    induction n with
    | zero => intro i q h1 h2; omega
    | succ n ih =>
      intro i q hi hn hq
      refine r_iload_n (pc := 4) B dX8_sumOf_4 rfl ?_
      refine r_aload_n (pc := 5) B dX8_sumOf_5 rfl ?_
      refine r_getr (pc := 6) B FX8_7 rfl rfl dX8_sumOf_6 ?_
      refine r_iconst (pc := 9) (x := 0) B dX8_sumOf_9 (by decide) ?_
      refine r_iald (pc := 10) B rfl (ix_of 0 rfl) dX8_sumOf_10 ?_
      rw [hN]
      refine r_icmp_ge (pc := 11) B 29 dX8_sumOf_11 (by decide) (fun h11 => ?_) (fun h11 => ?_)
      · skip
        have eN : i = N := by have := nI_ge_of (by omega) (by omega) h11; omega
        subst eN
        refine r_iload_n (pc := 29) B dX8_sumOf_29 rfl ?_
        exact r_iret (pc := 30) B R dX8_sumOf_30 ⟨by rw [hq], rfl⟩
      · skip
        have hiN : i < N := nI_lt_of (by omega) (by omega) h11
        have hi8 : i < 8 := by omega
        refine r_iload_n (pc := 14) B dX8_sumOf_14 rfl ?_
        refine r_aload_n (pc := 15) B dX8_sumOf_15 rfl ?_
        refine r_iload_n (pc := 16) B dX8_sumOf_16 rfl ?_
        refine r_iload_n (pc := 17) B dX8_sumOf_17 rfl ?_
        refine r_cVi2 (pc := 18) B KX8_59 (e_its l G _ rfl rfl hi8 hf) rfl rfl (by decide) (Nat.le_of_ble_eq_true rfl) dX8_sumOf_18 ?_
        refine r_iadd (pc := 21) B dX8_sumOf_21 ?_
        refine r_istore_2 (pc := 22) B dX8_sumOf_22 (by decide) rfl ?_
        refine r_iinc_3 (pc := 23) (y := _ + 1) B dX8_sumOf_23 rfl (by decide) rfl ?_
        refine r_goto (pc := 26) B 4 dX8_sumOf_26 (by decide) ?_
        rw [nI_1]
        exact ih (i + 1) _ hiN (by omega) (by rw [sumS, hq])
  exact hL4 (N + 1) 0 0 (by omega) (by omega) rfl
set_option maxHeartbeats 4000000 in
set_option maxRecDepth 20000 in
theorem e_outs (l : Launch) (G : GG) (σ : Sg) {N : Nat} (hN8 : N ≤ 8) (hN : σ 66 0 = nI N) (hW : WR (σ 66)) : CtI l G mX8_outs 1 shT [.ref (ad G 65)] σ (orS (fun u => σ 66 (53 + 8 * u + 5) = 1) (fun _ => inferInstance) N) σ := by
  refine ct_intro (by decide) (Nat.le_of_ble_eq_true rfl) (fun X B R => ?_)
  show V X G shT σ [some (.ref (ad G 65)), none, none] [] 0
  refine r_iconst (pc := 0) (x := 0) B dX8_outs_0 (by decide) ?_
  refine r_istore_1 (pc := 1) B dX8_outs_1 (by decide) rfl ?_
  refine r_iconst (pc := 2) (x := 0) B dX8_outs_2 (by decide) ?_
  refine r_istore_2 (pc := 3) B dX8_outs_3 (by decide) rfl ?_
  have hL4 : ∀ (n i : Nat) (q : Int32), i ≤ N → N + 1 ≤ i + n → q = orS (fun u => σ 66 (53 + 8 * u + 5) = 1) (fun _ => inferInstance) i → V X G shT σ [some (.ref (ad G 65)), some (.int q), some (.int (nI i))] [] 4 := by
    intro n
    induction n with
    | zero => intro i q h1 h2; omega
    | succ n ih =>
      intro i q hi hn hq
      refine r_iload_n (pc := 4) B dX8_outs_4 rfl ?_
      refine r_aload_n (pc := 5) B dX8_outs_5 rfl ?_
      refine r_getr (pc := 6) B FX8_7 rfl rfl dX8_outs_6 ?_
      refine r_iconst (pc := 9) (x := 0) B dX8_outs_9 (by decide) ?_
      refine r_iald (pc := 10) B rfl (ix_of 0 rfl) dX8_outs_10 ?_
      rw [hN]
      refine r_icmp_ge (pc := 11) B 31 dX8_outs_11 (by decide) (fun h11 => ?_) (fun h11 => ?_)
      · skip
        have eN : i = N := by have := nI_ge_of (by omega) (by omega) h11; omega
        subst eN
        refine r_iload_n (pc := 31) B dX8_outs_31 rfl ?_
        exact r_iret (pc := 32) B R dX8_outs_32 ⟨by rw [hq], rfl⟩
      · skip
        have hiN : i < N := nI_lt_of (by omega) (by omega) h11
        have hi8 : i < 8 := by omega
        refine r_iload_n (pc := 14) B dX8_outs_14 rfl ?_
        refine r_aload_n (pc := 15) B dX8_outs_15 rfl ?_
        refine r_iload_n (pc := 16) B dX8_outs_16 rfl ?_
        refine r_iconst (pc := 17) (x := 5) B dX8_outs_17 (by decide) ?_
        refine r_cVi2 (pc := 18) B KX8_59 (e_its l G _ (u := i) (i := 5) rfl rfl hi8 (by decide)) rfl rfl (by decide) (Nat.le_of_ble_eq_true rfl) dX8_outs_18 ?_
        refine r_iload_n (pc := 21) B dX8_outs_21 rfl ?_
        refine r_ishl (pc := 22) B dX8_outs_22 ?_
        refine r_ior (pc := 23) B dX8_outs_23 ?_
        refine r_istore_1 (pc := 24) B dX8_outs_24 (by decide) rfl ?_
        refine r_iinc_2 (pc := 25) (y := _ + 1) B dX8_outs_25 rfl (by decide) rfl ?_
        refine r_goto (pc := 28) B 4 dX8_outs_28 (by decide) ?_
        rw [nI_1]
        exact ih (i + 1) _ hiN (by omega) (by rcases wi_01 (hW.2.2.2 i 5 hi8 (by omega)) with z | z <;> rw [orS, z, hq] <;> first | rw [sh_0 i (by omega), or_0, if_neg (by decide)] | rw [if_pos rfl])
  exact hL4 (N + 1) 0 0 (by omega) (by omega) rfl
set_option maxHeartbeats 4000000 in
set_option maxRecDepth 20000 in
theorem e_roofs (l : Launch) (G : GG) (σ : Sg) (hW : WR (σ 66)) : CtI l G mX8_roofs 0 shT [.ref (ad G 65)] σ (orS (fun k => σ 66 (37 + k) = 1) (fun _ => inferInstance) 16) σ := by
  refine ct_intro (by decide) (Nat.le_of_ble_eq_true rfl) (fun X B R => ?_)
  show V X G shT σ [some (.ref (ad G 65)), none, none] [] 0
  refine r_iconst (pc := 0) (x := 0) B dX8_roofs_0 (by decide) ?_
  refine r_istore_1 (pc := 1) B dX8_roofs_1 (by decide) rfl ?_
  refine r_iconst (pc := 2) (x := 0) B dX8_roofs_2 (by decide) ?_
  refine r_istore_2 (pc := 3) B dX8_roofs_3 (by decide) rfl ?_
  have hL4 : ∀ (n i : Nat) (q : Int32), i ≤ 16 → 17 ≤ i + n → q = orS (fun k => σ 66 (37 + k) = 1) (fun _ => inferInstance) i → V X G shT σ [some (.ref (ad G 65)), some (.int q), some (.int (nI i))] [] 4 := by
    intro n
    induction n with
    | zero => intro i q h1 h2; omega
    | succ n ih =>
      intro i q hi hn hq
      refine r_iload_n (pc := 4) B dX8_roofs_4 rfl ?_
      refine r_bipush (pc := 5) (x := 16) B dX8_roofs_5 (by decide) ?_
      refine r_icmp_ge (pc := 7) B 30 dX8_roofs_7 (by decide) (fun h7 => ?_) (fun h7 => ?_)
      · skip
        have eN : i = 16 := by have := nI_ge_of (n := 16) (by omega) (by omega) h7; omega
        subst eN
        refine r_iload_n (pc := 30) B dX8_roofs_30 rfl ?_
        exact r_iret (pc := 31) B R dX8_roofs_31 ⟨by rw [hq], rfl⟩
      · skip
        have hiN : i < 16 := nI_lt_of (n := 16) (by omega) (by omega) h7
        refine r_iload_n (pc := 10) B dX8_roofs_10 rfl ?_
        refine r_aload_n (pc := 11) B dX8_roofs_11 rfl ?_
        refine r_getr (pc := 12) B FX8_7 rfl rfl dX8_roofs_12 ?_
        refine r_bipush (pc := 15) (x := 37) B dX8_roofs_15 (by decide) ?_
        refine r_iload_n (pc := 17) B dX8_roofs_17 rfl ?_
        refine r_iadd (pc := 18) B dX8_roofs_18 ?_
        refine r_iald (pc := 19) B rfl (ix_eq (pl_nI (n := 37) rfl) (by omega) (by decide)) dX8_roofs_19 ?_
        refine r_iload_n (pc := 20) B dX8_roofs_20 rfl ?_
        refine r_ishl (pc := 21) B dX8_roofs_21 ?_
        refine r_ior (pc := 22) B dX8_roofs_22 ?_
        refine r_istore_1 (pc := 23) B dX8_roofs_23 (by decide) rfl ?_
        refine r_iinc_2 (pc := 24) (y := _ + 1) B dX8_roofs_24 rfl (by decide) rfl ?_
        refine r_goto (pc := 27) B 4 dX8_roofs_27 (by decide) ?_
        rw [nI_1]
        exact ih (i + 1) _ hiN (by omega) (by rcases wi_01 (hW.2.2.1 i hiN).2.2 with z | z <;> rw [orS, z, hq] <;> first | rw [sh_0 i (by omega), or_0, if_neg (by decide)] | rw [if_pos rfl])
  exact hL4 17 0 0 (by omega) (by omega) rfl
set_option maxHeartbeats 4000000 in
set_option maxRecDepth 20000 in
theorem e_tick (l : Launch) (G : GG) (σ : Sg) {N : Nat} (hN8 : N ≤ 8) (hN : σ 66 0 = nI N) {t : Nat} (ht : t < 99999) (ht1 : σ 66 1 = nI t) (hW : WR (σ 66)) : CtI l G mX8_tick 5 shT [.ref (ad G 65)] σ (cntN (σ 66) N) (sR σ (tickV (σ 66) N)) := by
  refine ct_intro (by decide) (Nat.le_of_ble_eq_true rfl) (fun X B R => ?_)
  show V X G shT σ [some (.ref (ad G 65)), none, none] [] 0
  refine r_iconst (pc := 0) (x := 0) B dX8_tick_0 (by decide) ?_
  refine r_istore_1 (pc := 1) B dX8_tick_1 (by decide) rfl ?_
  refine r_iconst (pc := 2) (x := 0) B dX8_tick_2 (by decide) ?_
  refine r_istore_2 (pc := 3) B dX8_tick_3 (by decide) rfl ?_
  have hL4 : ∀ (n i : Nat) (q : Int32), i ≤ N → N + 1 ≤ i + n → q = cntN (σ 66) i → V X G shT (sR σ (goN (σ 66) i)) [some (.ref (ad G 65)), some (.int q), some (.int (nI i))] [] 4 := by
    intro n
    induction n with
    | zero => intro i q h1 h2; omega
    | succ n ih =>
      intro i q hi hn hq
      have hWi := goN_WR hW i (by omega)
      refine r_iload_n (pc := 4) B dX8_tick_4 rfl ?_
      refine r_aload_n (pc := 5) B dX8_tick_5 rfl ?_
      refine r_getr (pc := 6) B FX8_7 rfl rfl dX8_tick_6 ?_
      refine r_iconst (pc := 9) (x := 0) B dX8_tick_9 (by decide) ?_
      refine r_iald (pc := 10) B rfl (ix_of 0 rfl) dX8_tick_10 ?_
      rw [show sR σ (goN (σ 66) i) 66 0 = nI N by rw [sR_66, goN_lo (by omega)]; exact hN]
      refine r_icmp_ge (pc := 11) B 44 dX8_tick_11 (by decide) (fun h11 => ?_) (fun h11 => ?_)
      · skip
        have eN : i = N := by have := nI_ge_of (by omega) (by omega) h11; omega
        subst eN
        refine r_aload_n (pc := 44) B dX8_tick_44 rfl ?_
        refine r_getr (pc := 45) B FX8_7 rfl rfl dX8_tick_45 ?_
        refine r_iconst (pc := 48) (x := 1) B dX8_tick_48 (by decide) ?_
        refine r_dup2 (pc := 49) B rfl rfl dX8_tick_49 ?_
        refine r_iald (pc := 50) B rfl (ix_of 1 rfl) dX8_tick_50 ?_
        refine r_iconst (pc := 51) (x := 1) B dX8_tick_51 (by decide) ?_
        refine r_iadd (pc := 52) B dX8_tick_52 ?_
        refine r_iast (pc := 53) B rfl (ix_of 1 rfl) dX8_tick_53 ?_
        rw [st2_66, sR_sR, sR_66]
        refine r_iload_n (pc := 54) B dX8_tick_54 rfl ?_
        exact r_iret (pc := 55) B R dX8_tick_55 ⟨by rw [hq], by rw [tickV, goN_lo (w := σ 66) (k := 1) (by omega), ht1, mn_tk ht]⟩
      · skip
        have hiN : i < N := nI_lt_of (by omega) (by omega) h11
        have hi8 : i < 8 := by omega
        refine r_iload_n (pc := 14) B dX8_tick_14 rfl ?_
        refine r_aload_n (pc := 15) B dX8_tick_15 rfl ?_
        refine r_iload_n (pc := 16) B dX8_tick_16 rfl ?_
        refine r_cVi1 (pc := 17) B KX8_113 (e_isHome l G _ rfl hi8) rfl rfl (by decide) (Nat.le_of_ble_eq_true rfl) dX8_tick_17 ?_
        refine r_if_ne (pc := 20) B 35 dX8_tick_20 (by decide) (fun h20 => ?_) (fun h20 => ?_)
        · skip
          have hm : sR σ (goN (σ 66) i) 66 (53 + 8 * i + 1) = 16 := bI_n.mp h20
          refine r_iconst (pc := 35) (x := 0) B dX8_tick_35 (by decide) ?_
          refine r_iadd (pc := 36) B dX8_tick_36 ?_
          refine r_istore_1 (pc := 37) B dX8_tick_37 (by decide) rfl ?_
          refine r_iinc_2 (pc := 38) (y := _ + 1) B dX8_tick_38 rfl (by decide) rfl ?_
          refine r_goto (pc := 41) B 4 dX8_tick_41 (by decide) ?_
          rw [nI_1]
          first | (have e2 := goV_hm (w := goN (σ 66) i) (u := i) hm; have := ih (i + 1) (q + 0) hiN (by omega) (by rw [cntN, hq, show bI (gsP (goN (σ 66) i) i) = 0 from bI_0.mpr e2.2]); rw [show goN (σ 66) (i + 1) = goN (σ 66) i from e2.1] at this; exact this) | exact ih (i + 1) _ hiN (by omega) (by rw [cntN, hq, bI_nz (bI_01 _)])
        · skip
          have hm : ¬ sR σ (goN (σ 66) i) 66 (53 + 8 * i + 1) = 16 := bI_0.mp (by grind)
          obtain ⟨j, hj, hp⟩ := at_cs hi8 hWi hm
          refine r_aload_n (pc := 23) B dX8_tick_23 rfl ?_
          refine r_iload_n (pc := 24) B dX8_tick_24 rfl ?_
          refine r_cVi1 (pc := 25) B KX8_116 (e_goesOn l G _ rfl hi8 hj hp hWi) rfl rfl (by decide) (Nat.le_of_ble_eq_true rfl) dX8_tick_25 ?_
          rw [sR_sR, sR_66]
          refine r_bz_if_eq (pc := 28) B dX8_tick_28 dX8_tick_31 dX8_tick_32 dX8_tick_35 ?_
          refine r_iadd (pc := 36) B dX8_tick_36 ?_
          refine r_istore_1 (pc := 37) B dX8_tick_37 (by decide) rfl ?_
          refine r_iinc_2 (pc := 38) (y := _ + 1) B dX8_tick_38 rfl (by decide) rfl ?_
          refine r_goto (pc := 41) B 4 dX8_tick_41 (by decide) ?_
          rw [nI_1]
          first | (have e2 := goV_hm (w := goN (σ 66) i) (u := i) hm; have := ih (i + 1) (q + 0) hiN (by omega) (by rw [cntN, hq, show bI (gsP (goN (σ 66) i) i) = 0 from bI_0.mpr e2.2]); rw [show goN (σ 66) (i + 1) = goN (σ 66) i from e2.1] at this; exact this) | exact ih (i + 1) _ hiN (by omega) (by rw [cntN, hq, bI_nz (bI_01 _)])
  rw [← sR_self σ]
  exact hL4 (N + 1) 0 0 (by omega) (by omega) rfl

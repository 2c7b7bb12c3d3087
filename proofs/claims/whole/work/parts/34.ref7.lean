/-! the best of some -/
/-- the reference's scratch and its row alone change; the row is w -/
def roW (σ τ : Sg) (w : Nat → Int32) : Prop := (∀ k, k ≠ 65 → k ≠ 66 → k ≠ 69 → τ k = σ k) ∧ (∀ i, i < 11 → τ 65 i = σ 65 i) ∧ τ 66 = w
theorem roW.rf (σ : Sg) : roW σ σ (σ 66) := ⟨fun _ _ _ _ => rfl, fun _ _ => rfl, rfl⟩
theorem roW.ro {σ τ : Sg} (h : roW σ τ (σ 66)) : ro σ τ := ⟨fun k a b => by by_cases e : k = 66; (subst e; exact h.2.2); exact h.1 k a e b, h.2.1⟩
theorem roW.tr {σ τ ρ : Sg} {w : Nat → Int32} (h : roW σ τ w) (g : _root_.Jvm.Pilot.@@N@@.ro τ ρ) : roW σ ρ w := ⟨fun k a b c => (g.1 k a c).trans (h.1 k a b c), fun i hi => (g.2 i hi).trans (h.2.1 i hi), (g.1 66 (by decide) (by decide)).trans h.2.2⟩
theorem roW.st {σ τ : Sg} {w : Nat → Int32} (h : roW σ τ w) (m : Nat) (v : Int32) : roW σ (st2 τ 66 m v) (upd w m v) := by
  refine ⟨fun k a b c => ?_, fun i hi => ?_, ?_⟩
  · rw [st2_cl _ _ _ _ b]; exact h.1 k a b c
  · rw [st2_cl _ _ _ _ (by decide)]; exact h.2.1 i hi
  · rw [st2_66, sR_66, h.2.2]
theorem roW.fd {σ τ : Sg} {w : Nat → Int32} (h : roW σ τ w) {i : Nat} (hi : 11 ≤ i) (v : Int32) : roW σ (st2 τ 65 i v) w := by
  refine ⟨fun k a b c => ?_, fun j hj => ?_, ?_⟩
  · rw [st2_cl _ _ _ _ a]; exact h.1 k a b c
  · simp only [st2, if_pos]; rw [if_neg (by omega)]; exact h.2.1 j hj
  · rw [st2_cl _ _ _ _ (by decide)]; exact h.2.2
theorem upd_up (w : Nat → Int32) (m : Nat) (x y : Int32) : upd (upd w m x) m y = upd w m y := by funext k; unfold upd; split <;> rfl
theorem upd_id (w : Nat → Int32) (m : Nat) : upd w m (w m) = w := by funext k; unfold upd; split <;> simp_all
theorem WR_u {w : Nat → Int32} (hW : WR w) {u i : Nat} (hu : u < 8) (hi : i < 8) {v : Int32} (hv : withinP v (gK i)) : WR (upd w (53 + 8 * u + i) v) := by
  refine ⟨?_, ?_, fun k' hk' => ?_, fun u' i' hu' hi' => ?_⟩
  · rw [upd, if_neg (by omega)]; exact hW.1
  · rw [upd, if_neg (by omega)]; exact hW.2.1
  · rw [upd, if_neg (by omega), upd, if_neg (by omega), upd, if_neg (by omega)]; exact hW.2.2.1 k' hk'
  · unfold upd
    split
    · rename_i e
      have : i' = i := by omega
      subst this
      exact hv
    · exact hW.2.2.2 u' i' hu' hi'
def dO (q : Nat × WS) : Option Int32 := if q.2.2 1 = 16 then some (q.2.2 7) else none
def drD (p : Int32 × Int32) : Int32 := if p.1 < 0 then 100000 else p.2
theorem dr_iff {p : Int32 × Int32} {v : Int32} {a : Nat} (ha : a ≤ 99999) (hv : v = nI a) : v < drD p ↔ (p.1 < 0 ∨ ¬ p.2 ≤ v) := by
  unfold drD
  split
  · rename_i h
    exact ⟨fun _ => Or.inl h, fun _ => by rw [hv]; exact (nI_ltI (b := 100000) (by omega) (by decide)).mpr (by omega)⟩
  · rename_i h
    exact ⟨fun q => Or.inr (Int32.not_le.mpr q), fun q => q.elim (fun z => absurd z h) (fun z => Int32.not_le.mp z)⟩
theorem dO_cg {q p : Nat × WS} (h : q.1 = p.1 ∧ sq q.2 p.2) : dO q = dO p := by unfold dO; rw [h.2.2 1 (by omega), h.2.2 7 (by omega)]
theorem dH_M {w : Nat → Int32} {u f n : Nat} (hu : u < 8) (hf : f < 8) : dO (hmW (upd w (53 + 8 * u + f) (nI n)) u) = dH (opM w f u n) := by
  show _ = dO (hmN (wF w) 200 (w 1, upd (um w u) f (nI n)))
  refine dO_cg (hmN_congr (rsp_wF (by rw [upd, if_neg (by omega)]) (by rw [upd, if_neg (by omega)]) (fun k hk => by rw [upd, if_neg (by omega)])) 200 _ _ ⟨by show upd _ _ _ _ = _; rw [upd, if_neg (by omega)], fun i hi => ?_⟩)
  show upd w (53 + 8 * u + f) (nI n) (53 + 8 * u + i) = upd (um w u) f (nI n) i
  unfold upd
  by_cases e : i = f
  · rw [if_pos (by omega), if_pos e]
  · rw [if_neg (by omega), if_neg e]; rfl
theorem dH_R {w : Nat → Int32} {u n : Nat} (h : w (37 + n) = 0) (hn : n < 16) : dO (hmW (upd w (37 + n) 1) u) = dH (opR w u n) := by
  unfold opR
  rw [if_neg (by rw [h]; decide)]
  show _ = dO (hmN (wF (upd w (37 + n) 1)) 200 (w 1, um w u))
  unfold hmW
  rw [show upd w (37 + n) 1 1 = w 1 by rw [upd, if_neg (by omega)], show um (upd w (37 + n) 1) u = um w u by funext i; unfold um; rw [upd, if_neg (by omega)]]
theorem dH_R1 {w : Nat → Int32} {u n : Nat} (h : w (37 + n) = 1) : dH (opR w u n) = none := by
  unfold opR
  rw [if_pos h]
  rfl
theorem dH_W {w : Nat → Int32} {u n t : Nat} (ht : t + n ≤ 99999) (h1 : w 1 = nI t) : dO (hmW (upd w 1 (w 1 + nI n)) u) = dH (opW w u n) := by
  unfold opW
  show _ = dO (hmN (wF w) 200 (mn 99999 (w 1 + nI n), um w u))
  unfold hmW
  have e : mn 99999 (w 1 + nI n) = w 1 + nI n := by
    rw [h1, nI_add]
    unfold mn
    rcases Nat.lt_or_ge (t + n) 99999 with q | q
    · rw [if_pos (show nI (t + n) < 99999 from (nI_ltI (a := t + n) (b := 99999) (by omega) (by decide)).mpr q)]
    · rw [show t + n = 99999 by omega]; rfl
  rw [e, show upd w 1 (w 1 + nI n) 1 = w 1 + nI n by rw [upd, if_pos rfl], show um (upd w 1 (w 1 + nI n)) u = um w u by funext i; unfold um; rw [upd, if_neg (by omega)]]
  refine dO_cg (hmN_congr (rsp_wF (by rw [upd, if_neg (by omega)]) (by rw [upd, if_neg (by omega)]) (fun k hk => by rw [upd, if_neg (by omega)])) 200 _ _ (sq.rf _))

set_option maxHeartbeats 4000000 in
set_option maxRecDepth 20000 in
theorem e_begins (l : Launch) (G : GG) (σ : Sg) : CtV l G mX8_begins 0 shT [.ref (ad G 65)] σ (st2 (st2 σ 65 14 (-1)) 65 15 100000) := by
  refine ct_intro (by decide) (Nat.le_of_ble_eq_true rfl) (fun X B R => ?_)
  show V X G shT σ [some (.ref (ad G 65))] [] 0
  refine r_aload_n (pc := 0) B dX8_begins_0 rfl ?_
  refine r_iconst (pc := 1) (x := (-1)) B dX8_begins_1 (by decide) ?_
  refine r_puti (pc := 2) B PX8_163 rfl rfl dX8_begins_2 ?_
  refine r_aload_n (pc := 5) B dX8_begins_5 rfl ?_
  refine r_ldc (pc := 6) B q1014 dX8_begins_6 ?_
  refine r_puti (pc := 8) B PX8_167 rfl rfl dX8_begins_8 ?_
  exact r_vret (pc := 11) B R dX8_begins_11 ⟨rfl, rfl⟩
set_option maxHeartbeats 4000000 in
set_option maxRecDepth 20000 in
theorem e_looksAt (l : Launch) (G : GG) (σ : Sg) {u n : Nat} {x v : Int32} (hx : x = nI u) (hu : u < 8) (hv : v = nI n) (hn : n < 1000) (hW : WR (σ 66)) {t : Nat} (ht : t ≤ 99000) (ht1 : σ 66 1 = nI t) {p : Int32 × Int32} (h14 : σ 65 14 = p.1) (h15 : σ 65 15 = drD p) : CpV l G mX8_looksAt 7 shT [.ref (ad G 65), .int x, .int v] σ (fun τ => ro σ τ ∧ τ 65 14 = (drS p n (dO (hmW (σ 66) u))).1 ∧ τ 65 15 = drD (drS p n (dO (hmW (σ 66) u)))) := by
  subst hx hv
  refine ct_intro (by decide) (Nat.le_of_ble_eq_true rfl) (fun X B R => ?_)
  show V X G shT σ [some (.ref (ad G 65)), some (.int (nI u)), some (.int (nI n))] [] 0
  refine r_aload_n (pc := 0) B dX8_looksAt_0 rfl ?_
  refine r_iload_n (pc := 1) B dX8_looksAt_1 rfl ?_
  refine r_cVpi1 (pc := 2) B KX8_157 (e_follows l G _ rfl hu hW ht ht1) rfl rfl (by decide) (Nat.le_of_ble_eq_true rfl) dX8_looksAt_2 (fun ρ1 h1 => ?_)
  have h7 := h1.2.2.2.2.2.2.2.2.2 u 7 hu (by omega)
  rw [alR_u (by omega)] at h7
  obtain ⟨a, ha, hv⟩ := wi_nI (g := 99999) (by decide) h7
  refine r_if_lt (pc := 5) B 32 dX8_looksAt_5 (by decide) (fun h5 => ?_) (fun h5 => ?_)
  · skip
    have hd : dO (hmW (σ 66) u) = none := by unfold dO; rw [if_neg (hmW_neg h5)]
    exact r_vret (pc := 32) B R dX8_looksAt_32 (by first | exact ⟨rfl, h1.1, by rw [hd]; exact h1.2.2.2.2.1.trans h14, by rw [hd]; exact h1.2.2.2.2.2.1.trans h15⟩ | exact ⟨rfl, h1.1, by rw [hs]; exact h1.2.2.2.2.1.trans h14, by rw [hs]; exact h1.2.2.2.2.2.1.trans h15⟩ | exact ⟨rfl, (((roW.rf σ).tr h1.1).fd (by omega) _ |>.fd (by omega) _).ro, by rw [hs]; simp [st2], by rw [hs, drD, if_neg (nI_pos (by omega))]; simp [st2]⟩)
  · skip
    have hd : dO (hmW (σ 66) u) = some ((hmW (σ 66) u).2.2 7) := by unfold dO; rw [if_pos (hmW_pos h5)]
    refine r_aload_n (pc := 8) B dX8_looksAt_8 rfl ?_
    refine r_geti (pc := 9) B FX8_147 rfl rfl dX8_looksAt_9 ?_
    rw [h1.2.1]
    refine r_aload_n (pc := 12) B dX8_looksAt_12 rfl ?_
    refine r_geti (pc := 13) B FX8_167 rfl rfl dX8_looksAt_13 ?_
    rw [h1.2.2.2.2.2.1, h15]
    refine r_icmp_ge (pc := 16) B 32 dX8_looksAt_16 (by decide) (fun h16 => ?_) (fun h16 => ?_)
    · skip
      have hs : drS p n (dO (hmW (σ 66) u)) = p := by rw [hd]; show (if _ then _ else _) = _; rw [if_neg (fun q => Int32.not_lt.mpr h16 ((dr_iff ha hv).mpr q))]
      exact r_vret (pc := 32) B R dX8_looksAt_32 (by first | exact ⟨rfl, h1.1, by rw [hd]; exact h1.2.2.2.2.1.trans h14, by rw [hd]; exact h1.2.2.2.2.2.1.trans h15⟩ | exact ⟨rfl, h1.1, by rw [hs]; exact h1.2.2.2.2.1.trans h14, by rw [hs]; exact h1.2.2.2.2.2.1.trans h15⟩ | exact ⟨rfl, (((roW.rf σ).tr h1.1).fd (by omega) _ |>.fd (by omega) _).ro, by rw [hs]; simp [st2], by rw [hs, drD, if_neg (nI_pos (by omega))]; simp [st2]⟩)
    · skip
      have hs : drS p n (dO (hmW (σ 66) u)) = (nI n, (hmW (σ 66) u).2.2 7) := by rw [hd]; show (if _ then _ else _) = _; rw [if_pos ((dr_iff ha hv).mp (Int32.not_le.mp h16))]
      refine r_aload_n (pc := 19) B dX8_looksAt_19 rfl ?_
      refine r_iload_n (pc := 20) B dX8_looksAt_20 rfl ?_
      refine r_puti (pc := 21) B PX8_163 rfl rfl dX8_looksAt_21 ?_
      refine r_aload_n (pc := 24) B dX8_looksAt_24 rfl ?_
      refine r_aload_n (pc := 25) B dX8_looksAt_25 rfl ?_
      refine r_geti (pc := 26) B FX8_147 rfl rfl dX8_looksAt_26 ?_
      rw [show st2 ρ1 65 14 (nI n) 65 11 = ρ1 65 11 by simp [st2], h1.2.1]
      refine r_puti (pc := 29) B PX8_167 rfl rfl dX8_looksAt_29 ?_
      exact r_vret (pc := 32) B R dX8_looksAt_32 (by first | exact ⟨rfl, h1.1, by rw [hd]; exact h1.2.2.2.2.1.trans h14, by rw [hd]; exact h1.2.2.2.2.2.1.trans h15⟩ | exact ⟨rfl, h1.1, by rw [hs]; exact h1.2.2.2.2.1.trans h14, by rw [hs]; exact h1.2.2.2.2.2.1.trans h15⟩ | exact ⟨rfl, (((roW.rf σ).tr h1.1).fd (by omega) _ |>.fd (by omega) _).ro, by rw [hs]; simp [st2], by rw [hs, drD, if_neg (nI_pos (by omega))]; simp [st2]⟩)
set_option maxHeartbeats 4000000 in
set_option maxRecDepth 20000 in
theorem e_bestOf (l : Launch) (G : GG) (σ : Sg) {u f M : Nat} {x y c : Int32} (hx : x = nI u) (hu : u < 8) (hy : y = nI f) (hf : f < 8) (hc : c = nI M) (hM : M < 900) (hr : ∀ n, n ≤ M → withinP (nI n) (gK f)) (hW : WR (σ 66)) {t : Nat} (ht : t ≤ 99000) (ht1 : σ 66 1 = nI t) : Ct l G mX8_bestOf 8 shT [.ref (ad G 65), .int x, .int y, .int c] σ (fun r τ => ((drF (fun n => dH (opM (σ 66) f u n)) (M + 1)).1 < 0 ∧ gW σ 3 r τ) ∨ (¬ (drF (fun n => dH (opM (σ 66) f u n)) (M + 1)).1 < 0 ∧ r = some (.int (drF (fun n => dH (opM (σ 66) f u n)) (M + 1)).1) ∧ ro σ τ)) := by
  subst hx hy hc
  refine ct_intro (by decide) (Nat.le_of_ble_eq_true rfl) (fun X B R => ?_)
  show V X G shT σ [some (.ref (ad G 65)), some (.int (nI u)), some (.int (nI f)), some (.int (nI M)), none, none] [] 0
  refine r_aload_n (pc := 0) B dX8_bestOf_0 rfl ?_
  refine r_cVv0 (pc := 1) B KX8_170 (e_begins l G _) rfl rfl (by decide) (Nat.le_of_ble_eq_true rfl) dX8_bestOf_1 ?_
  refine r_aload_n (pc := 4) B dX8_bestOf_4 rfl ?_
  refine r_iload_n (pc := 5) B dX8_bestOf_5 rfl ?_
  refine r_iload_n (pc := 6) B dX8_bestOf_6 rfl ?_
  refine r_cVi2 (pc := 7) B KX8_59 (e_its l G _ rfl rfl hu hf) rfl rfl (by decide) (Nat.le_of_ble_eq_true rfl) dX8_bestOf_7 ?_
  rw [show (st2 (st2 σ 65 14 (-1)) 65 15 100000) 66 (53 + 8 * u + f) = σ 66 (53 + 8 * u + f) from rfl]
  refine r_istore_4 (pc := 10) B dX8_bestOf_10 (by decide) rfl ?_
  refine r_iconst (pc := 12) (x := 0) B dX8_bestOf_12 (by decide) ?_
  refine r_istore_5 (pc := 13) B dX8_bestOf_13 (by decide) rfl ?_
  have hL15 : ∀ (n i : Nat) (ρ : Sg) (z : Int32), i + n = M + 1 → roW σ ρ (upd (σ 66) (53 + 8 * u + f) z) → ρ 65 14 = (drF (fun n => dH (opM (σ 66) f u n)) i).1 → ρ 65 15 = drD (drF (fun n => dH (opM (σ 66) f u n)) i) → V X G shT ρ [some (.ref (ad G 65)), some (.int (nI u)), some (.int (nI f)), some (.int (nI M)), some (.int (σ 66 (53 + 8 * u + f))), some (.int (nI i))] [] 15 := by
    intro n
    induction n with
    | zero =>
      intro i ρ z hi hw h14 h15
      have ei : i = M + 1 := by omega
      subst ei
      refine r_iload (pc := 15) B dX8_bestOf_15 rfl ?_
      refine r_iload_n (pc := 17) B dX8_bestOf_17 rfl ?_
      refine r_icmp_gt (pc := 18) B 46 dX8_bestOf_18 (by decide) (fun h18 => ?_) (fun h18 => ?_)
      · skip
        refine r_aload_n (pc := 46) B dX8_bestOf_46 rfl ?_
        refine r_getr (pc := 47) B FX8_7 rfl rfl dX8_bestOf_47 ?_
        refine r_iload_n (pc := 50) B dX8_bestOf_50 rfl ?_
        refine r_iload_n (pc := 51) B dX8_bestOf_51 rfl ?_
        refine r_cSi2 (pc := 52) B KX8_70 (e_at l G _ _ rfl rfl hu hf) (by decide) (Nat.le_of_ble_eq_true rfl) dX8_bestOf_52 ?_
        refine r_iload (pc := 55) B dX8_bestOf_55 rfl ?_
        refine r_iast (pc := 57) B rfl (ix_nI (by omega) (by decide)) dX8_bestOf_57 ?_
        have hw0 := hw.st (53 + 8 * u + f) (σ 66 (53 + 8 * u + f))
        rw [upd_up, upd_id] at hw0
        have hw1 := hw0.ro
        refine r_aload_n (pc := 58) B dX8_bestOf_58 rfl ?_
        refine r_aload_n (pc := 59) B dX8_bestOf_59 rfl ?_
        refine r_geti (pc := 60) B FX8_163 rfl rfl dX8_bestOf_60 ?_
        rw [show st2 ρ 66 (53 + 8 * u + f) (σ 66 (53 + 8 * u + f)) 65 14 = ρ 65 14 by simp [st2], h14]
        refine r_cV (pc := 63) (As := [.int _]) (C := yX8_orNone.cls) B KX8_160 (e_orNone l G _ _) (by decide) rfl rfl rfl (Nat.le_of_ble_eq_true rfl) dX8_bestOf_63 (fun r τ hq => ?_)
        rcases hq with ⟨z_1, rfl, rfl⟩ | ⟨z_1, rfl, rfl⟩
        · exact r_iret (pc := 66) B R dX8_bestOf_66 (Or.inl ⟨z_1, rfl, _, hw1, rfl⟩)
        · exact r_iret (pc := 66) B R dX8_bestOf_66 (Or.inr ⟨z_1, rfl, hw1⟩)
      · skip
        exact absurd ((nI_ltI (a := M) (b := M + 1) (by omega) (by omega)).mpr (by omega)) h18
    | succ n ih =>
      intro i ρ z hi hw h14 h15
      refine r_iload (pc := 15) B dX8_bestOf_15 rfl ?_
      refine r_iload_n (pc := 17) B dX8_bestOf_17 rfl ?_
      refine r_icmp_gt (pc := 18) B 46 dX8_bestOf_18 (by decide) (fun h18 => ?_) (fun h18 => ?_)
      · skip
        exact absurd ((nI_ltI (a := M) (b := i) (by omega) (by omega)).mp h18) (by omega)
      · skip
        refine r_aload_n (pc := 21) B dX8_bestOf_21 rfl ?_
        refine r_getr (pc := 22) B FX8_7 rfl rfl dX8_bestOf_22 ?_
        refine r_iload_n (pc := 25) B dX8_bestOf_25 rfl ?_
        refine r_iload_n (pc := 26) B dX8_bestOf_26 rfl ?_
        refine r_cSi2 (pc := 27) B KX8_70 (e_at l G _ _ rfl rfl hu hf) (by decide) (Nat.le_of_ble_eq_true rfl) dX8_bestOf_27 ?_
        refine r_iload (pc := 30) B dX8_bestOf_30 rfl ?_
        refine r_iast (pc := 32) B rfl (ix_nI (by omega) (by decide)) dX8_bestOf_32 ?_
        have hw0 := hw.st (53 + 8 * u + f) (nI i)
        rw [upd_up] at hw0
        have ew : st2 ρ 66 (53 + 8 * u + f) (nI i) 66 = upd (σ 66) (53 + 8 * u + f) (nI i) := hw0.2.2
        have he := dH_M (w := σ 66) (n := i) hu hf
        rw [← ew] at he
        refine r_aload_n (pc := 33) B dX8_bestOf_33 rfl ?_
        refine r_iload_n (pc := 34) B dX8_bestOf_34 rfl ?_
        refine r_iload (pc := 35) B dX8_bestOf_35 rfl ?_
        refine r_cVpv2 (pc := 37) B KX8_173 (e_looksAt l G _ (p := drF (fun n => dH (opM (σ 66) f u n)) i) rfl hu rfl (by omega) (by rw [ew]; exact WR_u hW hu hf (hr i (by omega))) ht (by rw [ew, upd, if_neg (by omega)]; exact ht1) h14 h15) rfl rfl (by decide) (Nat.le_of_ble_eq_true rfl) dX8_bestOf_37 (fun ρ1 h1 => ?_)
        have hw1 := hw0.tr h1.1
        refine r_iinc_5 (pc := 40) (y := _ + 1) B dX8_bestOf_40 rfl (by decide) rfl ?_
        refine r_goto (pc := 43) B 15 dX8_bestOf_43 (by decide) ?_
        rw [nI_1]
        exact ih (i + 1) ρ1 (nI i) (by omega) hw1 (by rw [h1.2.1, he]; rfl) (by rw [h1.2.2, he]; rfl)
  exact hL15 (M + 1) 0 _ (σ 66 (53 + 8 * u + f)) (by omega) (by rw [upd_id]; exact ((roW.rf σ).fd (by omega) _).fd (by omega) _) rfl rfl
abbrev drR (σ : Sg) (N M : Nat) (OP : Nat → Nat → OPT) (x : Int32) (r : Option Value) (τ : Sg) : Prop := (¬ umR σ x ∧ gQ σ 0 r τ) ∨ ∃ u, u < N ∧ x = nI u ∧ (((drF (fun n => dH (OP u n)) M).1 < 0 ∧ gW σ 3 r τ) ∨ (¬ (drF (fun n => dH (OP u n)) M).1 < 0 ∧ r = some (.int (drF (fun n => dH (OP u n)) M).1) ∧ ro σ τ))

set_option maxHeartbeats 4000000 in
set_option maxRecDepth 20000 in
theorem e_habitFor (l : Launch) (G : GG) (σ : Sg) {N : Nat} (hN8 : N ≤ 8) (hN : σ 66 0 = nI N) (hW : WR (σ 66)) {t : Nat} (ht : t ≤ 99000) (ht1 : σ 66 1 = nI t) (x : Int32) : Ct l G mX8_habitFor 9 shT [.ref (ad G 65), .int x] σ (drR σ N 4 (opM (σ 66) 3) x) := by
  refine ct_intro (by decide) (Nat.le_of_ble_eq_true rfl) (fun X B R => ?_)
  show V X G shT σ [some (.ref (ad G 65)), some (.int x)] [] 0
  refine r_aload_n (pc := 0) B dX8_habitFor_0 rfl ?_
  refine r_iload_n (pc := 1) B dX8_habitFor_1 rfl ?_
  refine r_cVi1 (pc := 2) B KX8_89 (e_isUmbrella l G _ _) rfl rfl (by decide) (Nat.le_of_ble_eq_true rfl) dX8_habitFor_2 ?_
  refine r_if_eq (pc := 5) B 18 dX8_habitFor_5 (by decide) (fun h5 => ?_) (fun h5 => ?_)
  · skip
    refine r_aload_n (pc := 18) B dX8_habitFor_18 rfl ?_
    refine r_ldc (pc := 19) B q836 dX8_habitFor_19 ?_
    refine r_cVi1 (pc := 21) B KX8_39 (e_finds l G _ (j := 0) rfl (by decide)) rfl rfl (by decide) (Nat.le_of_ble_eq_true rfl) dX8_habitFor_21 ?_
    exact r_iret (pc := 24) B R dX8_habitFor_24 (Or.inl ⟨fun q => bI_0.mp h5 q, rfl, rfl⟩)
  · skip
    obtain ⟨u, hu1, hu2⟩ := um_nR hN8 hN (bI_n.mp h5)
    refine r_aload_n (pc := 8) B dX8_habitFor_8 rfl ?_
    refine r_iload_n (pc := 9) B dX8_habitFor_9 rfl ?_
    refine r_iconst (pc := 10) (x := 3) B dX8_habitFor_10 (by decide) ?_
    refine r_iconst (pc := 11) (x := 3) B dX8_habitFor_11 (by decide) ?_
    refine r_cV (pc := 12) (As := [.int x, .int 3, .int 3]) (C := yX8_bestOf.cls) B KX8_177 (e_bestOf l G _ (u := u) (f := 3) (M := 3) hu2 (by omega) rfl (by decide) rfl (by decide) (by decide) hW ht ht1) (by decide) rfl rfl rfl (Nat.le_of_ble_eq_true rfl) dX8_habitFor_12 (fun r τ hq => ?_)
    rcases hq with ⟨z, rfl, y, y2⟩ | ⟨z, rfl, y⟩
    · refine r_goto (pc := 15) B 24 dX8_habitFor_15 (by decide) ?_
      exact r_iret (pc := 24) B R dX8_habitFor_24 (Or.inr ⟨u, hu1, hu2, Or.inl ⟨z, rfl, y, y2⟩⟩)
    · refine r_goto (pc := 15) B 24 dX8_habitFor_15 (by decide) ?_
      exact r_iret (pc := 24) B R dX8_habitFor_24 (Or.inr ⟨u, hu1, hu2, Or.inr ⟨z, rfl, y⟩⟩)
set_option maxHeartbeats 4000000 in
set_option maxRecDepth 20000 in
theorem e_heldFor (l : Launch) (G : GG) (σ : Sg) {N : Nat} (hN8 : N ≤ 8) (hN : σ 66 0 = nI N) (hW : WR (σ 66)) {t : Nat} (ht : t ≤ 99000) (ht1 : σ 66 1 = nI t) (x : Int32) : Ct l G mX8_heldFor 9 shT [.ref (ad G 65), .int x] σ (drR σ N 4 (opM (σ 66) 2) x) := by
  refine ct_intro (by decide) (Nat.le_of_ble_eq_true rfl) (fun X B R => ?_)
  show V X G shT σ [some (.ref (ad G 65)), some (.int x)] [] 0
  refine r_aload_n (pc := 0) B dX8_heldFor_0 rfl ?_
  refine r_iload_n (pc := 1) B dX8_heldFor_1 rfl ?_
  refine r_cVi1 (pc := 2) B KX8_89 (e_isUmbrella l G _ _) rfl rfl (by decide) (Nat.le_of_ble_eq_true rfl) dX8_heldFor_2 ?_
  refine r_if_eq (pc := 5) B 18 dX8_heldFor_5 (by decide) (fun h5 => ?_) (fun h5 => ?_)
  · skip
    refine r_aload_n (pc := 18) B dX8_heldFor_18 rfl ?_
    refine r_ldc (pc := 19) B q836 dX8_heldFor_19 ?_
    refine r_cVi1 (pc := 21) B KX8_39 (e_finds l G _ (j := 0) rfl (by decide)) rfl rfl (by decide) (Nat.le_of_ble_eq_true rfl) dX8_heldFor_21 ?_
    exact r_iret (pc := 24) B R dX8_heldFor_24 (Or.inl ⟨fun q => bI_0.mp h5 q, rfl, rfl⟩)
  · skip
    obtain ⟨u, hu1, hu2⟩ := um_nR hN8 hN (bI_n.mp h5)
    refine r_aload_n (pc := 8) B dX8_heldFor_8 rfl ?_
    refine r_iload_n (pc := 9) B dX8_heldFor_9 rfl ?_
    refine r_iconst (pc := 10) (x := 2) B dX8_heldFor_10 (by decide) ?_
    refine r_iconst (pc := 11) (x := 3) B dX8_heldFor_11 (by decide) ?_
    refine r_cV (pc := 12) (As := [.int x, .int 2, .int 3]) (C := yX8_bestOf.cls) B KX8_177 (e_bestOf l G _ (u := u) (f := 2) (M := 3) hu2 (by omega) rfl (by decide) rfl (by decide) (by decide) hW ht ht1) (by decide) rfl rfl rfl (Nat.le_of_ble_eq_true rfl) dX8_heldFor_12 (fun r τ hq => ?_)
    rcases hq with ⟨z, rfl, y, y2⟩ | ⟨z, rfl, y⟩
    · refine r_goto (pc := 15) B 24 dX8_heldFor_15 (by decide) ?_
      exact r_iret (pc := 24) B R dX8_heldFor_24 (Or.inr ⟨u, hu1, hu2, Or.inl ⟨z, rfl, y, y2⟩⟩)
    · refine r_goto (pc := 15) B 24 dX8_heldFor_15 (by decide) ?_
      exact r_iret (pc := 24) B R dX8_heldFor_24 (Or.inr ⟨u, hu1, hu2, Or.inr ⟨z, rfl, y⟩⟩)
set_option maxHeartbeats 4000000 in
set_option maxRecDepth 20000 in
theorem e_kindFor (l : Launch) (G : GG) (σ : Sg) {N : Nat} (hN8 : N ≤ 8) (hN : σ 66 0 = nI N) (hW : WR (σ 66)) {t : Nat} (ht : t ≤ 99000) (ht1 : σ 66 1 = nI t) (x : Int32) : Ct l G mX8_kindFor 9 shT [.ref (ad G 65), .int x] σ (drR σ N 7 (opM (σ 66) 0) x) := by
  refine ct_intro (by decide) (Nat.le_of_ble_eq_true rfl) (fun X B R => ?_)
  show V X G shT σ [some (.ref (ad G 65)), some (.int x)] [] 0
  refine r_aload_n (pc := 0) B dX8_kindFor_0 rfl ?_
  refine r_iload_n (pc := 1) B dX8_kindFor_1 rfl ?_
  refine r_cVi1 (pc := 2) B KX8_89 (e_isUmbrella l G _ _) rfl rfl (by decide) (Nat.le_of_ble_eq_true rfl) dX8_kindFor_2 ?_
  refine r_if_eq (pc := 5) B 19 dX8_kindFor_5 (by decide) (fun h5 => ?_) (fun h5 => ?_)
  · skip
    refine r_aload_n (pc := 19) B dX8_kindFor_19 rfl ?_
    refine r_ldc (pc := 20) B q836 dX8_kindFor_20 ?_
    refine r_cVi1 (pc := 22) B KX8_39 (e_finds l G _ (j := 0) rfl (by decide)) rfl rfl (by decide) (Nat.le_of_ble_eq_true rfl) dX8_kindFor_22 ?_
    exact r_iret (pc := 25) B R dX8_kindFor_25 (Or.inl ⟨fun q => bI_0.mp h5 q, rfl, rfl⟩)
  · skip
    obtain ⟨u, hu1, hu2⟩ := um_nR hN8 hN (bI_n.mp h5)
    refine r_aload_n (pc := 8) B dX8_kindFor_8 rfl ?_
    refine r_iload_n (pc := 9) B dX8_kindFor_9 rfl ?_
    refine r_iconst (pc := 10) (x := 0) B dX8_kindFor_10 (by decide) ?_
    refine r_bipush (pc := 11) (x := 6) B dX8_kindFor_11 (by decide) ?_
    refine r_cV (pc := 13) (As := [.int x, .int 0, .int 6]) (C := yX8_bestOf.cls) B KX8_177 (e_bestOf l G _ (u := u) (f := 0) (M := 6) hu2 (by omega) rfl (by decide) rfl (by decide) (by decide) hW ht ht1) (by decide) rfl rfl rfl (Nat.le_of_ble_eq_true rfl) dX8_kindFor_13 (fun r τ hq => ?_)
    rcases hq with ⟨z, rfl, y, y2⟩ | ⟨z, rfl, y⟩
    · refine r_goto (pc := 16) B 25 dX8_kindFor_16 (by decide) ?_
      exact r_iret (pc := 25) B R dX8_kindFor_25 (Or.inr ⟨u, hu1, hu2, Or.inl ⟨z, rfl, y, y2⟩⟩)
    · refine r_goto (pc := 16) B 25 dX8_kindFor_16 (by decide) ?_
      exact r_iret (pc := 25) B R dX8_kindFor_25 (Or.inr ⟨u, hu1, hu2, Or.inr ⟨z, rfl, y⟩⟩)

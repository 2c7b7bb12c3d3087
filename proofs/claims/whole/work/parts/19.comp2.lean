/-! walks by the world's row alone -/
def sq (s x : WS) : Prop := s.1 = x.1 ∧ ∀ i, i < 8 → s.2 i = x.2 i
def rsp (F F' : WS → WS) : Prop := ∀ s x, sq s x → sq (F s) (F' x)
theorem sq.rf (s : WS) : sq s s := ⟨rfl, fun _ _ => rfl⟩
theorem goA_congr {fr sn ro fr' sn' ro' : Nat → Int32} {rain g t : Int32} {u u' : Nat → Int32} (h1 : ∀ i, i < 16 → fr i = fr' i) (h2 : ∀ i, i < 16 → sn i = sn' i) (h3 : ∀ i, i < 16 → ro i = ro' i) (hu : ∀ i, i < 8 → u i = u' i) : ∀ i, i < 8 → goA fr sn ro rain g t u i = goA fr' sn' ro' rain g t u' i := by
  intro i hi
  have e1 := hu 1 (by omega)
  by_cases hs : stepP (u' 1)
  · obtain ⟨j, hj, ha⟩ := stepP_nI hs
    have hn : (nI j).toNatClampNeg = j := nI_clamp (by omega)
    rw [goA, goA, e1, if_pos hs, if_pos hs, ha, hn]
    exact (goU_congr (h1 j hj) (h1 _ (jn_lt j)) (h2 j hj) (h3 j hj) hu).1 i hi
  · rw [goA, goA, e1, if_neg hs, if_neg hs]; exact hu i hi
def wF (w : Nat → Int32) (s : WS) : WS := (mn 99999 (s.1 + 1), goA (fun k => w (5 + k)) (fun k => w (21 + k)) (fun k => w (37 + k)) (w 3) (w 4) s.1 s.2)
theorem hmN_congr {F F' : WS → WS} (h : rsp F F') : ∀ n s x, sq s x → (hmN F n s).1 = (hmN F' n x).1 ∧ sq (hmN F n s).2 (hmN F' n x).2
  | 0, s, x, q => ⟨rfl, q⟩
  | n + 1, s, x, q => by
    have e1 := q.2 1 (by omega)
    by_cases hs : x.2 1 = 16
    · rw [hmN, hmN, if_pos (e1.trans hs), if_pos hs]; exact ⟨rfl, q⟩
    · rw [hmN, hmN, if_neg (by rw [e1]; exact hs), if_neg hs]
      obtain ⟨a, b⟩ := hmN_congr h n (F s) (F' x) (h s x q)
      exact ⟨by rw [a], b⟩
theorem hmR_congr {q p : Nat × WS} (h : q.1 = p.1 ∧ sq q.2 p.2) : hmR q = hmR p := by
  unfold hmR
  rw [h.1, h.2.2 1 (by omega)]
theorem tlN_congr {F F' : WS → WS} (h : rsp F F') (t : Int32) : ∀ n s x, sq s x → tlN F t n s = tlN F' t n x
  | 0, s, x, q => rfl
  | n + 1, s, x, q => by
    have e := h s x q
    rw [tlN, tlN, e.2 6 (by omega), tlN_congr h t n _ _ e]
theorem chN_congr {F F' : WS → WS} (h : rsp F F') (t : Int32) : ∀ n s x, sq s x → (chN F t n s ↔ chN F' t n x)
  | 0, s, x, q => by rw [chN, chN, q.2 1 (by omega)]
  | n + 1, s, x, q => by
    have e := h s x q
    rw [chN, chN, q.2 1 (by omega), e.2 6 (by omega), chN_congr h t n _ _ e]
theorem flN_congr {F F' : WS → WS} (h : rsp F F') {f g : Nat → Int32} {M : Nat} (hf : ∀ i, i < M → f i = g i) : ∀ n i s x, i + n ≤ M → sq s x → (flN F f n i s ↔ flN F' g n i x)
  | 0, i, s, x, hi, q => Iff.rfl
  | n + 1, i, s, x, hi, q => by
    have e := h s x q
    rw [flN, flN, q.2 1 (by omega), hf i (by omega), flN_congr h hf n (i + 1) _ _ (by omega) e]
theorem hm_le (F : WS → WS) : ∀ n s, (hmN F n s).1 ≤ n
  | 0, s => Nat.le_refl _
  | n + 1, s => by
    rw [hmN]
    split
    · exact Nat.zero_le _
    · exact Nat.succ_le_succ (hm_le F n _)
theorem hmR_ge {q : Nat × WS} (h : q.1 ≤ 200) : 0 ≤ hmR q ↔ q.2.2 1 = 16 := by
  unfold hmR
  by_cases e : q.2.2 1 = 16
  · rw [if_pos e]; exact ⟨fun _ => e, fun _ => nI_pos' (by omega)⟩
  · rw [if_neg e]; exact ⟨fun z => absurd z (by decide), fun z => absurd z e⟩
/-- the walk stands on the street w, at TICK t, with an umbrella a -/
def WkIs (ρ : Sg) (w : Nat → Int32) (t : Int32) (a : Nat → Int32) : Prop := (∀ i, i < 16 → ρ 48 i = w (5 + i)) ∧ (∀ i, i < 16 → ρ 49 i = w (21 + i)) ∧ (∀ i, i < 16 → ρ 50 i = w (37 + i)) ∧ ρ 47 3 = w 3 ∧ ρ 47 4 = w 4 ∧ ρ 47 5 = t ∧ ∀ i, i < 8 → ρ 51 i = a i
theorem WkIs.rsp {ρ : Sg} {w : Nat → Int32} {t : Int32} {a : Nat → Int32} (h : WkIs ρ w t a) : rsp (gA ρ) (wF w) := fun s x q => by
  obtain ⟨h1, h2, h3, h4, h5, -, -⟩ := h
  refine ⟨by show mn 99999 (s.1 + 1) = mn 99999 (x.1 + 1); rw [q.1], fun i hi => ?_⟩
  show goA (ρ 48) (ρ 49) (ρ 50) (ρ 47 3) (ρ 47 4) s.1 s.2 i = goA _ _ _ _ _ x.1 x.2 i
  rw [h4, h5, q.1]
  exact goA_congr h1 h2 h3 q.2 i hi
theorem WkIs.sq {ρ : Sg} {w : Nat → Int32} {t : Int32} {a : Nat → Int32} (h : WkIs ρ w t a) : sq (ρ 47 5, ρ 51) (t, a) := ⟨h.2.2.2.2.2.1, h.2.2.2.2.2.2⟩
theorem wkO.rf (σ : Sg) : wkO σ σ := fun _ _ => rfl
theorem wkO.tr {σ τ ρ : Sg} (h1 : wkO σ τ) (h2 : wkO τ ρ) : wkO σ ρ := fun k hk => (h2 k hk).trans (h1 k hk)
theorem wk_of {σ τ : Sg} {s : WS} (h : isWk σ τ s) : wkO σ τ := fun k hk => h.2.2.1 k (by omega) (by omega)
theorem swk_is {σ ρ : Sg} {u : Nat} (hu : u < 8) (h : wkO σ ρ) : WkIs (swk ρ u) (vw 1 σ) (vw 1 σ 1) (um (vw 1 σ) u) ∧ wkO σ (swk ρ u) := by
  obtain ⟨h1, h2, h3, h4, h5⟩ := swk_st ρ u
  have e := swk_wk ρ u hu
  refine ⟨⟨fun i hi => ?_, fun i hi => ?_, fun i hi => ?_, ?_, ?_, ?_, fun i hi => ?_⟩, h.tr e.2⟩
  · rw [h1 i hi, h 3 (by omega), vw_f _ _ hi]
  · rw [h2 i hi, h 4 (by omega), vw_s _ _ hi]
  · rw [h3 i hi, h 5 (by omega), vw_r _ _ hi]
  · rw [h4, h 2 (by omega), vw_3]
  · rw [h5, h 2 (by omega), vw_4]
  · rw [e.1.1, h 2 (by omega), vw_1]
  · rw [e.1.2.1 i hi, h (8 + u) (by omega), um, vw_u _ _ hu hi]
theorem WkIs.mark {ρ : Sg} {w : Nat → Int32} {t : Int32} {a : Nat → Int32} (h : WkIs ρ w t a) (f : Nat) (v : Int32) : WkIs (st2 ρ 51 f v) w t (upd a f v) := by
  obtain ⟨h1, h2, h3, h4, h5, h6, h7⟩ := h
  refine ⟨fun i hi => h1 i hi, fun i hi => h2 i hi, fun i hi => h3 i hi, h4, h5, h6, fun i hi => ?_⟩
  simp only [st2, upd]
  by_cases e : i = f
  · simp [e]
  · simp [e, h7 i hi]
theorem WkIs.wait {ρ : Sg} {w : Nat → Int32} {t : Int32} {a : Nat → Int32} (h : WkIs ρ w t a) (v : Int32) : WkIs (st2 ρ 47 5 (mn 99999 (ρ 47 5 + v))) w (mn 99999 (t + v)) a := by
  obtain ⟨h1, h2, h3, h4, h5, h6, h7⟩ := h
  exact ⟨fun i hi => h1 i hi, fun i hi => h2 i hi, fun i hi => h3 i hi, h4, h5, by rw [st2_at, h6], fun i hi => h7 i hi⟩
theorem WkIs.gust {ρ : Sg} {w : Nat → Int32} {t : Int32} {a : Nat → Int32} (h : WkIs ρ w t a) (v : Int32) : WkIs (st2 ρ 47 4 v) (upd w 4 v) t a := by
  obtain ⟨h1, h2, h3, h4, h5, h6, h7⟩ := h
  refine ⟨fun i hi => ?_, fun i hi => ?_, fun i hi => ?_, h4, rfl, h6, fun i hi => h7 i hi⟩
  · rw [upd, if_neg (by omega)]; exact h1 i hi
  · rw [upd, if_neg (by omega)]; exact h2 i hi
  · rw [upd, if_neg (by omega)]; exact h3 i hi
theorem WkIs.roof {ρ : Sg} {w : Nat → Int32} {t : Int32} {a : Nat → Int32} (h : WkIs ρ w t a) {j : Nat} (hj : j < 16) (v : Int32) : WkIs (st2 ρ 50 j v) (upd w (37 + j) v) t a := by
  obtain ⟨h1, h2, h3, h4, h5, h6, h7⟩ := h
  refine ⟨fun i hi => ?_, fun i hi => ?_, fun i hi => ?_, ?_, ?_, h6, fun i hi => h7 i hi⟩
  · rw [upd, if_neg (by omega)]; exact h1 i hi
  · rw [upd, if_neg (by omega)]; exact h2 i hi
  · simp only [upd, st2]
    by_cases e : i = j
    · subst e; simp
    · simp [e, h3 i hi]
  · rw [upd, if_neg (by omega)]; exact h4
  · rw [upd, if_neg (by omega)]; exact h5
theorem st2_wkO {σ ρ : Sg} {k i : Nat} {v : Int32} (h : wkO σ ρ) (hk : 47 ≤ k ∧ k ≤ 51) : wkO σ (st2 ρ k i v) := fun a ha => by rw [st2_cl _ _ _ _ (by omega)]; exact h a ha
/-- the walk's calls, by the row -/
theorem c_thW (l : Launch) (G : GG) {ρ : Sg} {w : Nat → Int32} {t : Int32} {a : Nat → Int32} (h : WkIs ρ w t a) : CpI l G mX5_ticksHome 4 shT [.ref (ad G 46)] ρ (hmR (hmN (wF w) 200 (t, a))) (fun τ => wkO ρ τ ∧ ∀ i, i < 8 → τ 51 i = (hmN (wF w) 200 (t, a)).2.2 i) := by
  have c := hmN_congr h.rsp 200 _ _ h.sq
  exact (c_ticksHome l G (isWk.rf ρ)).mono (fun r τ q => ⟨by rw [q.1, hmR_congr c], wk_of q.2, fun i hi => by rw [q.2.2.1 i hi, c.2.2 i hi]⟩)
theorem c_tlW (l : Launch) (G : GG) {ρ : Sg} {w : Nat → Int32} {t : Int32} {a : Nat → Int32} (h : WkIs ρ w t a) : CpI l G mX5_ticksTillTurned 4 shT [.ref (ad G 46)] ρ (tlR (tlN (wF w) (a 6) 200 (t, a))) (fun τ => wkO ρ τ) := by
  have c := tlN_congr h.rsp (a 6) 200 _ _ h.sq
  refine (c_ticksTillTurned l G (isWk.rf ρ)).mono (fun r τ q => ⟨?_, ?_⟩)
  · rw [q.1, show (ρ 47 5, ρ 51).2 6 = a 6 from h.sq.2 6 (by omega), c]
  · obtain ⟨x, hx⟩ := q.2; exact wk_of hx
theorem c_chW (l : Launch) (G : GG) {ρ : Sg} {w : Nat → Int32} {t : Int32} {a : Nat → Int32} (h : WkIs ρ w t a) : CpI l G mX5_comesHomeUnturned 4 shT [.ref (ad G 46)] ρ (chB (wF w) (a 6) 200 (t, a)) (fun τ => wkO ρ τ) := by
  have c := chN_congr h.rsp (a 6) 200 _ _ h.sq
  refine (c_comesHomeUnturned l G (isWk.rf ρ)).mono (fun r τ q => ⟨?_, ?_⟩)
  · rw [q.1, show (ρ 47 5, ρ 51).2 6 = a 6 from h.sq.2 6 (by omega)]
    congr 2
    by_cases z : chN (wF w) (a 6) 200 (t, a)
    · rw [chB_t z, chB_t (c.mpr z)]
    · rw [chB_f z, chB_f (fun y => z (c.mp y))]
  · obtain ⟨x, hx⟩ := q.2; exact wk_of hx
theorem c_flW (l : Launch) (G : GG) {ρ : Sg} {w : Nat → Int32} {t : Int32} {a : Nat → Int32} (h : WkIs ρ w t a) {H M : Nat} (hH : isH H) (hM : M ≤ 40) (hz : ρ H 2 = nI M) : CpI l G mX5_follows 4 shT [.ref (ad G 46), .ref (ad G H)] ρ (flB (wF w) (ρ (H + 1)) M 0 (t, a)) (fun τ => wkO ρ τ) := by
  have c := flN_congr h.rsp (f := ρ (H + 1)) (g := ρ (H + 1)) (M := M) (fun _ _ => rfl) M 0 _ _ (by omega) h.sq
  refine (c_follows l G (isWk.rf ρ) hH hM hz).mono (fun r τ q => ⟨?_, ?_⟩)
  · rw [q.1]
    congr 2
    by_cases z : flN (wF w) (ρ (H + 1)) M 0 (t, a)
    · rw [flB_t z, flB_t (c.mpr z)]
    · rw [flB_f z, flB_f (fun y => z (c.mp y))]
  · obtain ⟨x, hx⟩ := q.2; exact wk_of hx
theorem c_goW (l : Launch) (G : GG) {ρ : Sg} {w : Nat → Int32} {t : Int32} {a : Nat → Int32} (h : WkIs ρ w t a) : CpV l G mX5_goOn 3 shT [.ref (ad G 46)] ρ (fun τ => wkO ρ τ ∧ WkIs τ w (wF w (t, a)).1 (wF w (t, a)).2) := by
  have e := h.rsp _ _ h.sq
  refine (c_goOn l G (isWk.rf ρ)).mono (fun r τ q => ⟨q.1, wk_of q.2, ?_⟩)
  obtain ⟨h1, h2, h3, h4, h5, -, -⟩ := h
  obtain ⟨q1, q2, q3, q4⟩ := q.2
  exact ⟨fun i hi => by rw [q3 48 (by decide) (by decide)]; exact h1 i hi, fun i hi => by rw [q3 49 (by decide) (by decide)]; exact h2 i hi, fun i hi => by rw [q3 50 (by decide) (by decide)]; exact h3 i hi, by rw [q4 3 (by decide)]; exact h4, by rw [q4 4 (by decide)]; exact h5, q1.trans e.1, fun i hi => (q2 i hi).trans (e.2 i hi)⟩
/-- a finding behind a walk -/
abbrev fW (σ : Sg) (j : Nat) (r : Option Value) (τ : Sg) : Prop := r = some (.int (fA j)) ∧ ∃ ρ, wkO σ ρ ∧ τ = fnd ρ j
/-- the walk of umbrella u of a row -/
abbrev hmW (w : Nat → Int32) (u : Nat) : Nat × WS := hmN (wF w) 200 (w 1, um w u)
def itN (F : WS → WS) : Nat → WS → WS
  | 0, s => s
  | n + 1, s => itN F n (F s)

set_option maxHeartbeats 4000000 in
set_option maxRecDepth 20000 in
theorem c_home (l : Launch) (G : GG) (σ : Sg) {N : Nat} (hN8 : N ≤ 8) (hN : σ 1 2 = nI N) (x : Int32) : Ct l G mX7_home 5 shT [.ref (ad G 0), .int x] σ (fun r τ => (¬ umbP σ x ∧ fQ σ 0 r τ) ∨ ∃ u, u < N ∧ x = nI u ∧ (((hmW (vw 1 σ) u).2.2 1 = 16 ∧ r = some (.int (nI (hmW (vw 1 σ) u).1)) ∧ wkO σ τ) ∨ (¬ (hmW (vw 1 σ) u).2.2 1 = 16 ∧ fW σ 3 r τ))) := by
  refine ct_intro (by decide) (Nat.le_of_ble_eq_true rfl) (fun X B R => ?_)
  show V X G shT σ [some (.ref (ad G 0)), some (.int x), none] [] 0
  refine r_aload_n (pc := 0) B dX7_home_0 rfl ?_
  refine r_iload_n (pc := 1) B dX7_home_1 rfl ?_
  refine r_cVi1 (pc := 2) B KX7_111 (c_isUmbrella l G _ _) rfl rfl (by decide) (Nat.le_of_ble_eq_true rfl) dX7_home_2 ?_
  refine r_if_ne (pc := 5) B 14 dX7_home_5 (by decide) (fun h5 => ?_) (fun h5 => ?_)
  · skip
    obtain ⟨u, hu1, hu2⟩ := umb_nI hN8 hN (bI_n.mp h5)
    obtain ⟨hk1, hk2⟩ := swk_is (u := u) (by omega) (wkO.rf σ)
    refine r_aload_n (pc := 14) B dX7_home_14 rfl ?_
    refine r_iload_n (pc := 15) B dX7_home_15 rfl ?_
    rw [hu2]
    refine r_cVv1 (pc := 16) B KX7_158 (c_startWalk l G _ hN8 hN hu1) rfl rfl (by decide) (Nat.le_of_ble_eq_true rfl) dX7_home_16 ?_
    refine r_aload_n (pc := 19) B dX7_home_19 rfl ?_
    refine r_getr (pc := 20) B FX7_29 rfl rfl dX7_home_20 ?_
    refine r_cVpi0 (pc := 23) B KX7_169 (c_thW l G hk1) rfl rfl (by decide) (Nat.le_of_ble_eq_true rfl) dX7_home_23 (fun ρ hq => ?_)
    have hb := hmR_ge (hm_le (wF (vw 1 σ)) 200 (vw 1 σ 1, um (vw 1 σ) u))
    refine r_istore_2 (pc := 26) B dX7_home_26 (by decide) rfl ?_
    refine r_iload_n (pc := 27) B dX7_home_27 rfl ?_
    refine r_if_ge (pc := 28) B 39 dX7_home_28 (by decide) (fun h28 => ?_) (fun h28 => ?_)
    · skip
      refine r_iload_n (pc := 39) B dX7_home_39 rfl ?_
      exact r_iret (pc := 40) B R dX7_home_40 (Or.inr ⟨u, hu1, hu2, by first | exact Or.inl ⟨hb.mp h28, by rw [hmR, if_pos (hb.mp h28)], hk2.tr hq.1⟩ | exact Or.inr ⟨fun z => h28 (hb.mpr z), rfl, _, hk2.tr hq.1, rfl⟩⟩)
    · skip
      refine r_aload_n (pc := 31) B dX7_home_31 rfl ?_
      refine r_iconst (pc := 32) (x := 3) B dX7_home_32 (by decide) ?_
      refine r_cVi1 (pc := 33) B KX7_64 (c_finding l G _ 3 (ix_of 3 rfl)) rfl rfl (by decide) (Nat.le_of_ble_eq_true rfl) dX7_home_33 ?_
      refine r_goto (pc := 36) B 40 dX7_home_36 (by decide) ?_
      exact r_iret (pc := 40) B R dX7_home_40 (Or.inr ⟨u, hu1, hu2, by first | exact Or.inl ⟨hb.mp h28, by rw [hmR, if_pos (hb.mp h28)], hk2.tr hq.1⟩ | exact Or.inr ⟨fun z => h28 (hb.mpr z), rfl, _, hk2.tr hq.1, rfl⟩⟩)
  · skip
    refine r_aload_n (pc := 8) B dX7_home_8 rfl ?_
    refine r_iconst (pc := 9) (x := 0) B dX7_home_9 (by decide) ?_
    refine r_cVi1 (pc := 10) B KX7_64 (c_finding l G _ 0 (ix_of 0 rfl)) rfl rfl (by decide) (Nat.le_of_ble_eq_true rfl) dX7_home_10 ?_
    exact r_iret (pc := 13) B R dX7_home_13 (Or.inl ⟨fun q => bI_0.mp h5 q, rfl, rfl⟩)
set_option maxHeartbeats 4000000 in
set_option maxRecDepth 20000 in
theorem c_homeWith (l : Launch) (G : GG) (σ : Sg) {N : Nat} (hN8 : N ≤ 8) (hN : σ 1 2 = nI N) (x a : Int32) : Ct l G mX7_homeWith 5 shT [.ref (ad G 0), .int x, .int a] σ (fun r τ => (¬ (umbP σ x ∧ (a = 7 ∨ a = 6 ∨ a = 4)) ∧ fQ σ 0 r τ) ∨ ∃ u k, u < N ∧ x = nI u ∧ (k = 7 ∨ k = 6 ∨ k = 4) ∧ a = nI k ∧ (((hmW (vw 1 σ) u).2.2 1 = 16 ∧ r = some (.int ((hmW (vw 1 σ) u).2.2 k)) ∧ wkO σ τ) ∨ (¬ (hmW (vw 1 σ) u).2.2 1 = 16 ∧ fW σ 3 r τ))) := by
  refine ct_intro (by decide) (Nat.le_of_ble_eq_true rfl) (fun X B R => ?_)
  show V X G shT σ [some (.ref (ad G 0)), some (.int x), some (.int a)] [] 0
  refine r_aload_n (pc := 0) B dX7_homeWith_0 rfl ?_
  refine r_iload_n (pc := 1) B dX7_homeWith_1 rfl ?_
  refine r_cVi1 (pc := 2) B KX7_111 (c_isUmbrella l G _ _) rfl rfl (by decide) (Nat.le_of_ble_eq_true rfl) dX7_homeWith_2 ?_
  refine r_if_eq (pc := 5) B 25 dX7_homeWith_5 (by decide) (fun h5 => ?_) (fun h5 => ?_)
  · skip
    refine r_aload_n (pc := 25) B dX7_homeWith_25 rfl ?_
    refine r_iconst (pc := 26) (x := 0) B dX7_homeWith_26 (by decide) ?_
    refine r_cVi1 (pc := 27) B KX7_64 (c_finding l G _ 0 (ix_of 0 rfl)) rfl rfl (by decide) (Nat.le_of_ble_eq_true rfl) dX7_homeWith_27 ?_
    exact r_iret (pc := 30) B R dX7_homeWith_30 (Or.inl ⟨by first | exact fun q => bI_0.mp h5 q.1 | exact fun q => q.2.elim h11 (fun z => z.elim h17 h22), rfl, rfl⟩)
  · skip
    obtain ⟨u, hu1, hu2⟩ := umb_nI hN8 hN (bI_n.mp h5)
    obtain ⟨hk1, hk2⟩ := swk_is (u := u) (by omega) (wkO.rf σ)
    refine r_iload_n (pc := 8) B dX7_homeWith_8 rfl ?_
    refine r_bipush (pc := 9) (x := 7) B dX7_homeWith_9 (by decide) ?_
    refine r_icmp_eq (pc := 11) B 31 dX7_homeWith_11 (by decide) (fun h11 => ?_) (fun h11 => ?_)
    · skip
      obtain ⟨k, hk3, hk4⟩ : ∃ k, (k = 7 ∨ k = 6 ∨ k = 4) ∧ a = nI k := by first | exact ⟨7, Or.inl rfl, h11⟩ | exact ⟨6, Or.inr (Or.inl rfl), h17⟩ | exact ⟨4, Or.inr (Or.inr rfl), h22⟩
      refine r_aload_n (pc := 31) B dX7_homeWith_31 rfl ?_
      refine r_iload_n (pc := 32) B dX7_homeWith_32 rfl ?_
      rw [hu2]
      refine r_cVv1 (pc := 33) B KX7_158 (c_startWalk l G _ hN8 hN hu1) rfl rfl (by decide) (Nat.le_of_ble_eq_true rfl) dX7_homeWith_33 ?_
      refine r_aload_n (pc := 36) B dX7_homeWith_36 rfl ?_
      refine r_getr (pc := 37) B FX7_29 rfl rfl dX7_homeWith_37 ?_
      refine r_cVpi0 (pc := 40) B KX7_169 (c_thW l G hk1) rfl rfl (by decide) (Nat.le_of_ble_eq_true rfl) dX7_homeWith_40 (fun ρ hq => ?_)
      have hb := hmR_ge (hm_le (wF (vw 1 σ)) 200 (vw 1 σ 1, um (vw 1 σ) u))
      refine r_if_ge (pc := 43) B 54 dX7_homeWith_43 (by decide) (fun h43 => ?_) (fun h43 => ?_)
      · skip
        refine r_aload_n (pc := 54) B dX7_homeWith_54 rfl ?_
        refine r_getr (pc := 55) B FX7_29 rfl rfl dX7_homeWith_55 ?_
        refine r_getr (pc := 58) B FX7_165 rfl rfl dX7_homeWith_58 ?_
        refine r_iload_n (pc := 61) B dX7_homeWith_61 rfl ?_
        rw [hk4]
        refine r_cVi1 (pc := 62) B KX7_134 (c_mark l G _ (Or.inr (Or.inr (Or.inr rfl))) (by omega)) rfl rfl (by decide) (Nat.le_of_ble_eq_true rfl) dX7_homeWith_62 ?_
        exact r_iret (pc := 65) B R dX7_homeWith_65 (Or.inr ⟨u, k, hu1, hu2, hk3, hk4, by first | exact Or.inl ⟨hb.mp h43, by rw [hq.2 k (by omega)], hk2.tr hq.1⟩ | exact Or.inr ⟨fun z => h43 (hb.mpr z), rfl, _, hk2.tr hq.1, rfl⟩⟩)
      · skip
        refine r_aload_n (pc := 46) B dX7_homeWith_46 rfl ?_
        refine r_iconst (pc := 47) (x := 3) B dX7_homeWith_47 (by decide) ?_
        refine r_cVi1 (pc := 48) B KX7_64 (c_finding l G _ 3 (ix_of 3 rfl)) rfl rfl (by decide) (Nat.le_of_ble_eq_true rfl) dX7_homeWith_48 ?_
        refine r_goto (pc := 51) B 65 dX7_homeWith_51 (by decide) ?_
        exact r_iret (pc := 65) B R dX7_homeWith_65 (Or.inr ⟨u, k, hu1, hu2, hk3, hk4, by first | exact Or.inl ⟨hb.mp h43, by rw [hq.2 k (by omega)], hk2.tr hq.1⟩ | exact Or.inr ⟨fun z => h43 (hb.mpr z), rfl, _, hk2.tr hq.1, rfl⟩⟩)
    · skip
      refine r_iload_n (pc := 14) B dX7_homeWith_14 rfl ?_
      refine r_bipush (pc := 15) (x := 6) B dX7_homeWith_15 (by decide) ?_
      refine r_icmp_eq (pc := 17) B 31 dX7_homeWith_17 (by decide) (fun h17 => ?_) (fun h17 => ?_)
      · skip
        obtain ⟨k, hk3, hk4⟩ : ∃ k, (k = 7 ∨ k = 6 ∨ k = 4) ∧ a = nI k := by first | exact ⟨7, Or.inl rfl, h11⟩ | exact ⟨6, Or.inr (Or.inl rfl), h17⟩ | exact ⟨4, Or.inr (Or.inr rfl), h22⟩
        refine r_aload_n (pc := 31) B dX7_homeWith_31 rfl ?_
        refine r_iload_n (pc := 32) B dX7_homeWith_32 rfl ?_
        rw [hu2]
        refine r_cVv1 (pc := 33) B KX7_158 (c_startWalk l G _ hN8 hN hu1) rfl rfl (by decide) (Nat.le_of_ble_eq_true rfl) dX7_homeWith_33 ?_
        refine r_aload_n (pc := 36) B dX7_homeWith_36 rfl ?_
        refine r_getr (pc := 37) B FX7_29 rfl rfl dX7_homeWith_37 ?_
        refine r_cVpi0 (pc := 40) B KX7_169 (c_thW l G hk1) rfl rfl (by decide) (Nat.le_of_ble_eq_true rfl) dX7_homeWith_40 (fun ρ hq => ?_)
        have hb := hmR_ge (hm_le (wF (vw 1 σ)) 200 (vw 1 σ 1, um (vw 1 σ) u))
        refine r_if_ge (pc := 43) B 54 dX7_homeWith_43 (by decide) (fun h43 => ?_) (fun h43 => ?_)
        · skip
          refine r_aload_n (pc := 54) B dX7_homeWith_54 rfl ?_
          refine r_getr (pc := 55) B FX7_29 rfl rfl dX7_homeWith_55 ?_
          refine r_getr (pc := 58) B FX7_165 rfl rfl dX7_homeWith_58 ?_
          refine r_iload_n (pc := 61) B dX7_homeWith_61 rfl ?_
          rw [hk4]
          refine r_cVi1 (pc := 62) B KX7_134 (c_mark l G _ (Or.inr (Or.inr (Or.inr rfl))) (by omega)) rfl rfl (by decide) (Nat.le_of_ble_eq_true rfl) dX7_homeWith_62 ?_
          exact r_iret (pc := 65) B R dX7_homeWith_65 (Or.inr ⟨u, k, hu1, hu2, hk3, hk4, by first | exact Or.inl ⟨hb.mp h43, by rw [hq.2 k (by omega)], hk2.tr hq.1⟩ | exact Or.inr ⟨fun z => h43 (hb.mpr z), rfl, _, hk2.tr hq.1, rfl⟩⟩)
        · skip
          refine r_aload_n (pc := 46) B dX7_homeWith_46 rfl ?_
          refine r_iconst (pc := 47) (x := 3) B dX7_homeWith_47 (by decide) ?_
          refine r_cVi1 (pc := 48) B KX7_64 (c_finding l G _ 3 (ix_of 3 rfl)) rfl rfl (by decide) (Nat.le_of_ble_eq_true rfl) dX7_homeWith_48 ?_
          refine r_goto (pc := 51) B 65 dX7_homeWith_51 (by decide) ?_
          exact r_iret (pc := 65) B R dX7_homeWith_65 (Or.inr ⟨u, k, hu1, hu2, hk3, hk4, by first | exact Or.inl ⟨hb.mp h43, by rw [hq.2 k (by omega)], hk2.tr hq.1⟩ | exact Or.inr ⟨fun z => h43 (hb.mpr z), rfl, _, hk2.tr hq.1, rfl⟩⟩)
      · skip
        refine r_iload_n (pc := 20) B dX7_homeWith_20 rfl ?_
        refine r_iconst (pc := 21) (x := 4) B dX7_homeWith_21 (by decide) ?_
        refine r_icmp_eq (pc := 22) B 31 dX7_homeWith_22 (by decide) (fun h22 => ?_) (fun h22 => ?_)
        · skip
          obtain ⟨k, hk3, hk4⟩ : ∃ k, (k = 7 ∨ k = 6 ∨ k = 4) ∧ a = nI k := by first | exact ⟨7, Or.inl rfl, h11⟩ | exact ⟨6, Or.inr (Or.inl rfl), h17⟩ | exact ⟨4, Or.inr (Or.inr rfl), h22⟩
          refine r_aload_n (pc := 31) B dX7_homeWith_31 rfl ?_
          refine r_iload_n (pc := 32) B dX7_homeWith_32 rfl ?_
          rw [hu2]
          refine r_cVv1 (pc := 33) B KX7_158 (c_startWalk l G _ hN8 hN hu1) rfl rfl (by decide) (Nat.le_of_ble_eq_true rfl) dX7_homeWith_33 ?_
          refine r_aload_n (pc := 36) B dX7_homeWith_36 rfl ?_
          refine r_getr (pc := 37) B FX7_29 rfl rfl dX7_homeWith_37 ?_
          refine r_cVpi0 (pc := 40) B KX7_169 (c_thW l G hk1) rfl rfl (by decide) (Nat.le_of_ble_eq_true rfl) dX7_homeWith_40 (fun ρ hq => ?_)
          have hb := hmR_ge (hm_le (wF (vw 1 σ)) 200 (vw 1 σ 1, um (vw 1 σ) u))
          refine r_if_ge (pc := 43) B 54 dX7_homeWith_43 (by decide) (fun h43 => ?_) (fun h43 => ?_)
          · skip
            refine r_aload_n (pc := 54) B dX7_homeWith_54 rfl ?_
            refine r_getr (pc := 55) B FX7_29 rfl rfl dX7_homeWith_55 ?_
            refine r_getr (pc := 58) B FX7_165 rfl rfl dX7_homeWith_58 ?_
            refine r_iload_n (pc := 61) B dX7_homeWith_61 rfl ?_
            rw [hk4]
            refine r_cVi1 (pc := 62) B KX7_134 (c_mark l G _ (Or.inr (Or.inr (Or.inr rfl))) (by omega)) rfl rfl (by decide) (Nat.le_of_ble_eq_true rfl) dX7_homeWith_62 ?_
            exact r_iret (pc := 65) B R dX7_homeWith_65 (Or.inr ⟨u, k, hu1, hu2, hk3, hk4, by first | exact Or.inl ⟨hb.mp h43, by rw [hq.2 k (by omega)], hk2.tr hq.1⟩ | exact Or.inr ⟨fun z => h43 (hb.mpr z), rfl, _, hk2.tr hq.1, rfl⟩⟩)
          · skip
            refine r_aload_n (pc := 46) B dX7_homeWith_46 rfl ?_
            refine r_iconst (pc := 47) (x := 3) B dX7_homeWith_47 (by decide) ?_
            refine r_cVi1 (pc := 48) B KX7_64 (c_finding l G _ 3 (ix_of 3 rfl)) rfl rfl (by decide) (Nat.le_of_ble_eq_true rfl) dX7_homeWith_48 ?_
            refine r_goto (pc := 51) B 65 dX7_homeWith_51 (by decide) ?_
            exact r_iret (pc := 65) B R dX7_homeWith_65 (Or.inr ⟨u, k, hu1, hu2, hk3, hk4, by first | exact Or.inl ⟨hb.mp h43, by rw [hq.2 k (by omega)], hk2.tr hq.1⟩ | exact Or.inr ⟨fun z => h43 (hb.mpr z), rfl, _, hk2.tr hq.1, rfl⟩⟩)
        · skip
          refine r_aload_n (pc := 25) B dX7_homeWith_25 rfl ?_
          refine r_iconst (pc := 26) (x := 0) B dX7_homeWith_26 (by decide) ?_
          refine r_cVi1 (pc := 27) B KX7_64 (c_finding l G _ 0 (ix_of 0 rfl)) rfl rfl (by decide) (Nat.le_of_ble_eq_true rfl) dX7_homeWith_27 ?_
          exact r_iret (pc := 30) B R dX7_homeWith_30 (Or.inl ⟨by first | exact fun q => bI_0.mp h5 q.1 | exact fun q => q.2.elim h11 (fun z => z.elim h17 h22), rfl, rfl⟩)
theorem tlR_ge {q : Option Nat} (h : ∀ n, q = some n → n ≤ 200) : 0 ≤ tlR q ↔ q.isSome = true := by
  cases q with
  | none => exact ⟨fun z => absurd z (by decide), fun z => absurd z (by decide)⟩
  | some n => exact ⟨fun _ => rfl, fun _ => nI_pos' (by have := h n rfl; omega)⟩
theorem tl_le (F : WS → WS) (t : Int32) : ∀ n s m, tlN F t n s = some m → m ≤ n
  | 0, s, m, h => by cases h
  | n + 1, s, m, h => by
    rw [tlN] at h
    split at h
    · cases q : tlN F t n (F s) with
      | none => rw [q] at h; cases h
      | some k => rw [q] at h; cases h; exact Nat.succ_le_succ (tl_le F t n _ k q)
    · cases h; omega
abbrev tlW (w : Nat → Int32) (u : Nat) : Option Nat := tlN (wF w) (um w u 6) 200 (w 1, um w u)

set_option maxHeartbeats 4000000 in
set_option maxRecDepth 20000 in
theorem c_whup (l : Launch) (G : GG) (σ : Sg) {N : Nat} (hN8 : N ≤ 8) (hN : σ 1 2 = nI N) (x : Int32) : Ct l G mX7_whup 5 shT [.ref (ad G 0), .int x] σ (fun r τ => (¬ umbP σ x ∧ fQ σ 0 r τ) ∨ ∃ u, u < N ∧ x = nI u ∧ ((∃ n, tlW (vw 1 σ) u = some n ∧ r = some (.int (nI n)) ∧ wkO σ τ) ∨ (tlW (vw 1 σ) u = none ∧ fW σ 3 r τ))) := by
  refine ct_intro (by decide) (Nat.le_of_ble_eq_true rfl) (fun X B R => ?_)
  show V X G shT σ [some (.ref (ad G 0)), some (.int x), none] [] 0
  refine r_aload_n (pc := 0) B dX7_whup_0 rfl ?_
  refine r_iload_n (pc := 1) B dX7_whup_1 rfl ?_
  refine r_cVi1 (pc := 2) B KX7_111 (c_isUmbrella l G _ _) rfl rfl (by decide) (Nat.le_of_ble_eq_true rfl) dX7_whup_2 ?_
  refine r_if_ne (pc := 5) B 14 dX7_whup_5 (by decide) (fun h5 => ?_) (fun h5 => ?_)
  · skip
    obtain ⟨u, hu1, hu2⟩ := umb_nI hN8 hN (bI_n.mp h5)
    obtain ⟨hk1, hk2⟩ := swk_is (u := u) (by omega) (wkO.rf σ)
    refine r_aload_n (pc := 14) B dX7_whup_14 rfl ?_
    refine r_iload_n (pc := 15) B dX7_whup_15 rfl ?_
    rw [hu2]
    refine r_cVv1 (pc := 16) B KX7_158 (c_startWalk l G _ hN8 hN hu1) rfl rfl (by decide) (Nat.le_of_ble_eq_true rfl) dX7_whup_16 ?_
    refine r_aload_n (pc := 19) B dX7_whup_19 rfl ?_
    refine r_getr (pc := 20) B FX7_29 rfl rfl dX7_whup_20 ?_
    refine r_cVpi0 (pc := 23) B KX7_172 (c_tlW l G hk1) rfl rfl (by decide) (Nat.le_of_ble_eq_true rfl) dX7_whup_23 (fun ρ hq => ?_)
    have hb := tlR_ge (tl_le (wF (vw 1 σ)) (um (vw 1 σ) u 6) 200 (vw 1 σ 1, um (vw 1 σ) u))
    refine r_istore_2 (pc := 26) B dX7_whup_26 (by decide) rfl ?_
    refine r_iload_n (pc := 27) B dX7_whup_27 rfl ?_
    refine r_if_ge (pc := 28) B 39 dX7_whup_28 (by decide) (fun h28 => ?_) (fun h28 => ?_)
    · skip
      refine r_iload_n (pc := 39) B dX7_whup_39 rfl ?_
      exact r_iret (pc := 40) B R dX7_whup_40 (Or.inr ⟨u, hu1, hu2, by first | (obtain ⟨n, hn⟩ := Option.isSome_iff_exists.mp (hb.mp h28); exact Or.inl ⟨n, hn, by rw [hn]; rfl, hk2.tr hq⟩) | exact Or.inr ⟨Option.not_isSome_iff_eq_none.mp (fun z => h28 (hb.mpr z)), rfl, _, hk2.tr hq, rfl⟩⟩)
    · skip
      refine r_aload_n (pc := 31) B dX7_whup_31 rfl ?_
      refine r_iconst (pc := 32) (x := 3) B dX7_whup_32 (by decide) ?_
      refine r_cVi1 (pc := 33) B KX7_64 (c_finding l G _ 3 (ix_of 3 rfl)) rfl rfl (by decide) (Nat.le_of_ble_eq_true rfl) dX7_whup_33 ?_
      refine r_goto (pc := 36) B 40 dX7_whup_36 (by decide) ?_
      exact r_iret (pc := 40) B R dX7_whup_40 (Or.inr ⟨u, hu1, hu2, by first | (obtain ⟨n, hn⟩ := Option.isSome_iff_exists.mp (hb.mp h28); exact Or.inl ⟨n, hn, by rw [hn]; rfl, hk2.tr hq⟩) | exact Or.inr ⟨Option.not_isSome_iff_eq_none.mp (fun z => h28 (hb.mpr z)), rfl, _, hk2.tr hq, rfl⟩⟩)
  · skip
    refine r_aload_n (pc := 8) B dX7_whup_8 rfl ?_
    refine r_iconst (pc := 9) (x := 0) B dX7_whup_9 (by decide) ?_
    refine r_cVi1 (pc := 10) B KX7_64 (c_finding l G _ 0 (ix_of 0 rfl)) rfl rfl (by decide) (Nat.le_of_ble_eq_true rfl) dX7_whup_10 ?_
    exact r_iret (pc := 13) B R dX7_whup_13 (Or.inl ⟨fun q => bI_0.mp h5 q, rfl, rfl⟩)
set_option maxHeartbeats 4000000 in
set_option maxRecDepth 20000 in
theorem c_ahead (l : Launch) (G : GG) (σ : Sg) {N : Nat} (hN8 : N ≤ 8) (hN : σ 1 2 = nI N) (x a n : Int32) : Ct l G mX7_ahead 4 shT [.ref (ad G 0), .int x, .int a, .int n] σ (fun r τ => (¬ (umbP σ x ∧ ¬ a < 1 ∧ ¬ 7 < a ∧ withinP n 100) ∧ fQ σ 0 r τ) ∨ ∃ u k m, u < N ∧ x = nI u ∧ 1 ≤ k ∧ k < 8 ∧ a = nI k ∧ m ≤ 100 ∧ n = nI m ∧ wkO σ τ ∧ r = some (.int ((itN (wF (vw 1 σ)) m (vw 1 σ 1, um (vw 1 σ) u)).2 k))) := by
  refine ct_intro (by decide) (Nat.le_of_ble_eq_true rfl) (fun X B R => ?_)
  show V X G shT σ [some (.ref (ad G 0)), some (.int x), some (.int a), some (.int n), none] [] 0
  refine r_aload_n (pc := 0) B dX7_ahead_0 rfl ?_
  refine r_iload_n (pc := 1) B dX7_ahead_1 rfl ?_
  refine r_cVi1 (pc := 2) B KX7_111 (c_isUmbrella l G _ _) rfl rfl (by decide) (Nat.le_of_ble_eq_true rfl) dX7_ahead_2 ?_
  refine r_if_eq (pc := 5) B 28 dX7_ahead_5 (by decide) (fun h5 => ?_) (fun h5 => ?_)
  · skip
    refine r_aload_n (pc := 28) B dX7_ahead_28 rfl ?_
    refine r_iconst (pc := 29) (x := 0) B dX7_ahead_29 (by decide) ?_
    refine r_cVi1 (pc := 30) B KX7_64 (c_finding l G _ 0 (ix_of 0 rfl)) rfl rfl (by decide) (Nat.le_of_ble_eq_true rfl) dX7_ahead_30 ?_
    exact r_iret (pc := 33) B R dX7_ahead_33 (Or.inl ⟨by first | exact fun q => bI_0.mp h5 q.1 | exact fun q => q.2.1 h10 | exact fun q => q.2.2.1 h16 | exact fun q => bI_0.mp h25 q.2.2.2, rfl, rfl⟩)
  · skip
    obtain ⟨u, hu1, hu2⟩ := umb_nI hN8 hN (bI_n.mp h5)
    obtain ⟨hk1, hk2⟩ := swk_is (u := u) (by omega) (wkO.rf σ)
    refine r_iload_n (pc := 8) B dX7_ahead_8 rfl ?_
    refine r_iconst (pc := 9) (x := 1) B dX7_ahead_9 (by decide) ?_
    refine r_icmp_lt (pc := 10) B 28 dX7_ahead_10 (by decide) (fun h10 => ?_) (fun h10 => ?_)
    · skip
      refine r_aload_n (pc := 28) B dX7_ahead_28 rfl ?_
      refine r_iconst (pc := 29) (x := 0) B dX7_ahead_29 (by decide) ?_
      refine r_cVi1 (pc := 30) B KX7_64 (c_finding l G _ 0 (ix_of 0 rfl)) rfl rfl (by decide) (Nat.le_of_ble_eq_true rfl) dX7_ahead_30 ?_
      exact r_iret (pc := 33) B R dX7_ahead_33 (Or.inl ⟨by first | exact fun q => bI_0.mp h5 q.1 | exact fun q => q.2.1 h10 | exact fun q => q.2.2.1 h16 | exact fun q => bI_0.mp h25 q.2.2.2, rfl, rfl⟩)
    · skip
      refine r_iload_n (pc := 13) B dX7_ahead_13 rfl ?_
      refine r_bipush (pc := 14) (x := 7) B dX7_ahead_14 (by decide) ?_
      refine r_icmp_gt (pc := 16) B 28 dX7_ahead_16 (by decide) (fun h16 => ?_) (fun h16 => ?_)
      · skip
        refine r_aload_n (pc := 28) B dX7_ahead_28 rfl ?_
        refine r_iconst (pc := 29) (x := 0) B dX7_ahead_29 (by decide) ?_
        refine r_cVi1 (pc := 30) B KX7_64 (c_finding l G _ 0 (ix_of 0 rfl)) rfl rfl (by decide) (Nat.le_of_ble_eq_true rfl) dX7_ahead_30 ?_
        exact r_iret (pc := 33) B R dX7_ahead_33 (Or.inl ⟨by first | exact fun q => bI_0.mp h5 q.1 | exact fun q => q.2.1 h10 | exact fun q => q.2.2.1 h16 | exact fun q => bI_0.mp h25 q.2.2.2, rfl, rfl⟩)
      · skip
        refine r_iload_n (pc := 19) B dX7_ahead_19 rfl ?_
        refine r_bipush (pc := 20) (x := 100) B dX7_ahead_20 (by decide) ?_
        refine r_cSi2 (pc := 22) B KX7_83 (c_isWithin l G _ _ _ _) (by decide) (Nat.le_of_ble_eq_true rfl) dX7_ahead_22 ?_
        refine r_if_ne (pc := 25) B 34 dX7_ahead_25 (by decide) (fun h25 => ?_) (fun h25 => ?_)
        · skip
          obtain ⟨m, hm1, hm2⟩ := wi_nI (g := 100) (by omega) (bI_n.mp h25)
          obtain ⟨k, hk3, hk4, hk5⟩ : ∃ k, 1 ≤ k ∧ k < 8 ∧ a = nI k := by
            obtain ⟨k, hk, rfl⟩ := nI_of (x := a) (fun z => h10 (by grind))
            refine ⟨k, ?_, ?_, rfl⟩
            · rcases Nat.lt_or_ge k 1 with q | q
              · exact absurd ((nI_ltI (b := 1) hk (by omega)).mpr q) h10
              · exact q
            · rcases Nat.lt_or_ge k 8 with q | q
              · exact q
              · exact absurd ((nI_ltI (a := 7) (by omega) hk).mpr q) h16
          refine r_aload_n (pc := 34) B dX7_ahead_34 rfl ?_
          refine r_iload_n (pc := 35) B dX7_ahead_35 rfl ?_
          rw [hu2]
          refine r_cVv1 (pc := 36) B KX7_158 (c_startWalk l G _ hN8 hN hu1) rfl rfl (by decide) (Nat.le_of_ble_eq_true rfl) dX7_ahead_36 ?_
          refine r_iconst (pc := 39) (x := 0) B dX7_ahead_39 (by decide) ?_
          refine r_istore_4 (pc := 40) B dX7_ahead_40 (by decide) rfl ?_
          have hL42 : ∀ (q i : Nat) (ρ : Sg) (s : WS), i + q = m → wkO σ ρ → WkIs ρ (vw 1 σ) s.1 s.2 → itN (wF (vw 1 σ)) m (vw 1 σ 1, um (vw 1 σ) u) = itN (wF (vw 1 σ)) q s → V X G shT ρ [some (.ref (ad G 0)), some (.int (nI u)), some (.int a), some (.int n), some (.int (nI i))] [] 42 := by
            intro q
            induction q with
            | zero =>
              intro i ρ s hi hw hk hq
              have ei : i = m := by omega
              subst ei
              refine r_iload (pc := 42) B dX7_ahead_42 rfl ?_
              refine r_iload_n (pc := 44) B dX7_ahead_44 rfl ?_
              refine r_icmp_ge (pc := 45) B 61 dX7_ahead_45 (by decide) (fun h45 => ?_) (fun h45 => ?_)
              · skip
                refine r_aload_n (pc := 61) B dX7_ahead_61 rfl ?_
                refine r_getr (pc := 62) B FX7_29 rfl rfl dX7_ahead_62 ?_
                refine r_getr (pc := 65) B FX7_165 rfl rfl dX7_ahead_65 ?_
                refine r_iload_n (pc := 68) B dX7_ahead_68 rfl ?_
                rw [hk5]
                refine r_cVi1 (pc := 69) B KX7_134 (c_mark l G _ (Or.inr (Or.inr (Or.inr rfl))) (by omega)) rfl rfl (by decide) (Nat.le_of_ble_eq_true rfl) dX7_ahead_69 ?_
                exact r_iret (pc := 72) B R dX7_ahead_72 (Or.inr ⟨u, k, i, hu1, hu2, hk3, hk4, hk5, hm1, hm2, hw, by rw [hk.2.2.2.2.2.2 k hk4, hq]; rfl⟩)
              · skip
                exact absurd (by rw [hm2]; exact (nI_leI (by omega) (by omega)).mpr (Nat.le_refl _)) h45
            | succ q ih =>
              intro i ρ s hi hw hk hq
              refine r_iload (pc := 42) B dX7_ahead_42 rfl ?_
              refine r_iload_n (pc := 44) B dX7_ahead_44 rfl ?_
              refine r_icmp_ge (pc := 45) B 61 dX7_ahead_45 (by decide) (fun h45 => ?_) (fun h45 => ?_)
              · skip
                exact absurd ((nI_leI (a := m) (b := i) (by omega) (by omega)).mp (by rw [← hm2]; exact h45)) (by omega)
              · skip
                refine r_aload_n (pc := 48) B dX7_ahead_48 rfl ?_
                refine r_getr (pc := 49) B FX7_29 rfl rfl dX7_ahead_49 ?_
                refine r_cVpv0 (pc := 52) B KX7_162 (c_goW l G hk) rfl rfl (by decide) (Nat.le_of_ble_eq_true rfl) dX7_ahead_52 (fun ρ2 hw2 => ?_)
                refine r_iinc_4 (pc := 55) (y := _ + 1) B dX7_ahead_55 rfl (by decide) rfl ?_
                refine r_goto (pc := 58) B 42 dX7_ahead_58 (by decide) ?_
                rw [nI_1]
                exact ih (i + 1) _ _ (by omega) (hw.tr hw2.1) hw2.2 hq
          exact hL42 m 0 _ (vw 1 σ 1, um (vw 1 σ) u) (by omega) hk2 hk1 rfl
        · skip
          refine r_aload_n (pc := 28) B dX7_ahead_28 rfl ?_
          refine r_iconst (pc := 29) (x := 0) B dX7_ahead_29 (by decide) ?_
          refine r_cVi1 (pc := 30) B KX7_64 (c_finding l G _ 0 (ix_of 0 rfl)) rfl rfl (by decide) (Nat.le_of_ble_eq_true rfl) dX7_ahead_30 ?_
          exact r_iret (pc := 33) B R dX7_ahead_33 (Or.inl ⟨by first | exact fun q => bI_0.mp h5 q.1 | exact fun q => q.2.1 h10 | exact fun q => q.2.2.1 h16 | exact fun q => bI_0.mp h25 q.2.2.2, rfl, rfl⟩)

/-! the end of the reference's text -/
set_option maxHeartbeats 4000000 in
set_option maxRecDepth 20000 in
theorem tx_end {l : Launch} {X : CX} {G : GG} {σ : Sg} {L : Nat} (B : Bd l X G mX8_text.2.1 mX8_text.1.cls mX8_text.2.2.1 4) (R : RQ X G mX8_text.2.2.2 shT (fun r τ => r = some (.int (txB σ L).1) ∧ (∀ j, j < 127 → τ 66 j = if (txB σ L).1 < 0 then σ 66 j else (txB σ L).2 j) ∧ τ 65 7 = 0 ∧ (∀ i, i < 16 → i ≠ 7 → τ 65 i = σ 65 i) ∧ ∀ k, k ≠ 65 → k ≠ 66 → k ≠ 68 → τ k = σ k)) {i : Nat} (hi : i ≤ 121) {s : RES} {z : Int32} {ρ2 : Sg} {tl : Option Value} (hr : rT (cpN σ 66 68 127) ρ2 L s.2.1 s.2.2) (h1b : s.2.1.1 < 1000) (hc : (z = 1 ∧ txB σ L = (nI i, s.2.2)) ∨ (z = 0 ∧ txB σ L = (-1 - nI s.2.1.1, s.2.2) ∧ ρ2 65 20 = nI s.2.1.1)) : V X G shT ρ2 [some (.ref (ad G 65)), some (.int (nI i)), some (.int z), some (.int 0), tl] [] 111 := by
  refine r_aload_n (pc := 111) B dX8_text_111 rfl ?_
  refine r_iconst (pc := 112) (x := 0) B dX8_text_112 (by decide) ?_
  refine r_puti (pc := 113) B PX8_209 rfl rfl dX8_text_113 ?_
  have e2 : st2 ρ2 65 7 0 66 = s.2.2 := by rw [st2_cl _ _ _ _ (by decide)]; exact hr.2.1
  have e8 : ∀ j, j < 127 → st2 ρ2 65 7 0 68 j = σ 66 j := fun j hj => by rw [st2_cl _ _ _ _ (by decide), hr.2.2.1 68 (by decide) (by decide)]; simp [cpN, hj]
  have e5 : ∀ i, i < 16 → i ≠ 7 → st2 ρ2 65 7 0 65 i = σ 65 i := fun i a b => by rw [st_ne b, hr.2.2.2.1 i a]; rw [cpN_ne (by decide)]
  have ek : ∀ k, k ≠ 65 → k ≠ 66 → k ≠ 68 → st2 ρ2 65 7 0 k = σ k := fun k a b c => by rw [st2_cl _ _ _ _ a, hr.2.2.1 k a b, cpN_ne c]
  refine r_iload_n (pc := 116) B dX8_text_116 rfl ?_
  refine r_if_ne (pc := 117) B 131 dX8_text_117 (by decide) (fun h117 => ?_) (fun h117 => ?_)
  · skip
    refine r_iload_n (pc := 131) B dX8_text_131 rfl ?_
    refine r_if_eq (pc := 132) B 139 dX8_text_132 (by decide) (fun h132 => ?_) (fun h132 => ?_)
    · skip
      refine r_iconst (pc := 139) (x := (-1)) B dX8_text_139 (by decide) ?_
      refine r_aload_n (pc := 140) B dX8_text_140 rfl ?_
      refine r_geti (pc := 141) B FX8_233 rfl rfl dX8_text_141 ?_
      refine r_isub (pc := 144) B dX8_text_144 ?_
      exact r_iret (pc := 145) B R dX8_text_145 (by
          first
          | exact absurd h132 h117
          | exact absurd h117 h132
          | (have hx := hc.elim (fun q => q.2) (fun q => absurd q.1 h117)
             exact ⟨by rw [hx], fun j hj => by rw [e2, hx, if_neg (nI_pos (by omega))], by rw [st_at], e5, ek⟩)
          | (have hx := hc.elim (fun q => absurd (q.1.symm.trans h117) (by decide)) (fun q => q.2)
             refine ⟨?_, fun j hj => ?_, ?_, fun k a b => ?_, fun k a b c => ?_⟩
             · rw [hx.1, cpN_ne (by decide), st_ne (by decide), hx.2]
             · rw [hx.1, if_pos (m1_neg (by omega))]; show (if 66 = 66 ∧ j < 127 then _ else _) = _; rw [if_pos ⟨rfl, hj⟩]; exact e8 j hj
             · rw [cpN_ne (by decide), st_at]
             · rw [cpN_ne (by decide)]; exact e5 k a b
             · rw [cpN_ne b]; exact ek k a b c))
    · skip
      refine r_iload_n (pc := 135) B dX8_text_135 rfl ?_
      refine r_goto (pc := 136) B 145 dX8_text_136 (by decide) ?_
      exact r_iret (pc := 145) B R dX8_text_145 (by
          first
          | exact absurd h132 h117
          | exact absurd h117 h132
          | (have hx := hc.elim (fun q => q.2) (fun q => absurd q.1 h117)
             exact ⟨by rw [hx], fun j hj => by rw [e2, hx, if_neg (nI_pos (by omega))], by rw [st_at], e5, ek⟩)
          | (have hx := hc.elim (fun q => absurd (q.1.symm.trans h117) (by decide)) (fun q => q.2)
             refine ⟨?_, fun j hj => ?_, ?_, fun k a b => ?_, fun k a b c => ?_⟩
             · rw [hx.1, cpN_ne (by decide), st_ne (by decide), hx.2]
             · rw [hx.1, if_pos (m1_neg (by omega))]; show (if 66 = 66 ∧ j < 127 then _ else _) = _; rw [if_pos ⟨rfl, hj⟩]; exact e8 j hj
             · rw [cpN_ne (by decide), st_at]
             · rw [cpN_ne (by decide)]; exact e5 k a b
             · rw [cpN_ne b]; exact ek k a b c))
  · skip
    refine r_aload_n (pc := 120) B dX8_text_120 rfl ?_
    refine r_getr (pc := 121) B FX8_16 rfl rfl dX8_text_121 ?_
    refine r_aload_n (pc := 124) B dX8_text_124 rfl ?_
    refine r_getr (pc := 125) B FX8_7 rfl rfl dX8_text_125 ?_
    refine r_cSv2 (pc := 128) B KX8_140 (e_copyRow l G _ (a := 68) (c := 66) rfl rfl (by decide)) (by decide) (Nat.le_of_ble_eq_true rfl) dX8_text_128 ?_
    refine r_iload_n (pc := 131) B dX8_text_131 rfl ?_
    refine r_if_eq (pc := 132) B 139 dX8_text_132 (by decide) (fun h132 => ?_) (fun h132 => ?_)
    · skip
      refine r_iconst (pc := 139) (x := (-1)) B dX8_text_139 (by decide) ?_
      refine r_aload_n (pc := 140) B dX8_text_140 rfl ?_
      refine r_geti (pc := 141) B FX8_233 rfl rfl dX8_text_141 ?_
      refine r_isub (pc := 144) B dX8_text_144 ?_
      exact r_iret (pc := 145) B R dX8_text_145 (by
          first
          | exact absurd h132 h117
          | exact absurd h117 h132
          | (have hx := hc.elim (fun q => q.2) (fun q => absurd q.1 h117)
             exact ⟨by rw [hx], fun j hj => by rw [e2, hx, if_neg (nI_pos (by omega))], by rw [st_at], e5, ek⟩)
          | (have hx := hc.elim (fun q => absurd (q.1.symm.trans h117) (by decide)) (fun q => q.2)
             refine ⟨?_, fun j hj => ?_, ?_, fun k a b => ?_, fun k a b c => ?_⟩
             · rw [hx.1, cpN_ne (by decide), st_ne (by decide), hx.2]
             · rw [hx.1, if_pos (m1_neg (by omega))]; show (if 66 = 66 ∧ j < 127 then _ else _) = _; rw [if_pos ⟨rfl, hj⟩]; exact e8 j hj
             · rw [cpN_ne (by decide), st_at]
             · rw [cpN_ne (by decide)]; exact e5 k a b
             · rw [cpN_ne b]; exact ek k a b c))
    · skip
      refine r_iload_n (pc := 135) B dX8_text_135 rfl ?_
      refine r_goto (pc := 136) B 145 dX8_text_136 (by decide) ?_
      exact r_iret (pc := 145) B R dX8_text_145 (by
          first
          | exact absurd h132 h117
          | exact absurd h117 h132
          | (have hx := hc.elim (fun q => q.2) (fun q => absurd q.1 h117)
             exact ⟨by rw [hx], fun j hj => by rw [e2, hx, if_neg (nI_pos (by omega))], by rw [st_at], e5, ek⟩)
          | (have hx := hc.elim (fun q => absurd (q.1.symm.trans h117) (by decide)) (fun q => q.2)
             refine ⟨?_, fun j hj => ?_, ?_, fun k a b => ?_, fun k a b c => ?_⟩
             · rw [hx.1, cpN_ne (by decide), st_ne (by decide), hx.2]
             · rw [hx.1, if_pos (m1_neg (by omega))]; show (if 66 = 66 ∧ j < 127 then _ else _) = _; rw [if_pos ⟨rfl, hj⟩]; exact e8 j hj
             · rw [cpN_ne (by decide), st_at]
             · rw [cpN_ne (by decide)]; exact e5 k a b
             · rw [cpN_ne b]; exact ek k a b c))

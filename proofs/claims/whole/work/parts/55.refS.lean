/-! the reference's text behind its items -/
set_option maxHeartbeats 4000000 in
set_option maxRecDepth 20000 in
theorem tx_87 {l : Launch} {X : CX} {G : GG} {σ : Sg} {L : Nat} (B : Bd l X G mX8_text.2.1 mX8_text.1.cls mX8_text.2.2.1 4) (R : RQ X G mX8_text.2.2.2 shT (fun r τ => r = some (.int (txB σ L).1) ∧ (∀ j, j < 127 → τ 66 j = if (txB σ L).1 < 0 then σ 66 j else (txB σ L).2 j) ∧ τ 65 7 = 0 ∧ (∀ i, i < 16 → i ≠ 7 → τ 65 i = σ 65 i) ∧ ∀ k, k ≠ 65 → k ≠ 66 → k ≠ 68 → τ k = σ k)) {i : Nat} (hi : i ≤ 121) {s : RES} {ρ : Sg} {tl : Option Value} (k : rE (cpN σ 66 68 127) L s ρ) (h1b : s.2.1.1 < 1000) (hTX : txB σ L = enF i s) : V X G shT ρ [some (.ref (ad G 65)), some (.int (nI i)), some (.int (bI (s.1 = true))), some (.int 0), tl] [] 87 := by
  refine r_iload_n (pc := 87) B dX8_text_87 rfl ?_
  refine r_if_eq (pc := 88) B 109 dX8_text_88 (by decide) (fun h88 => ?_) (fun h88 => ?_)
  · skip
    refine r_iconst (pc := 109) (x := 0) B dX8_text_109 (by decide) ?_
    refine r_istore_2 (pc := 110) B dX8_text_110 (by decide) rfl ?_
    first | exact tx_end B R hi (s := s) k.1 h1b (Or.inr ⟨rfl, by rw [hTX, enF, if_neg (bI_0.mp h88)], k.2 (by simpa using bI_0.mp h88)⟩) | exact tx_end B R hi (s := s) k.1 h1b (Or.inl ⟨rfl, by rw [hTX, enF, if_pos (bI_n.mp h88), if_pos h95]⟩) | exact tx_end B R hi (s := s) (k.1.ft _) h1b (Or.inr ⟨rfl, by rw [hTX, enF, if_pos (bI_n.mp h88), if_neg h95], by simp [st2]⟩)
  · skip
    refine r_aload_n (pc := 91) B dX8_text_91 rfl ?_
    refine r_geti (pc := 92) B FX8_227 rfl rfl dX8_text_92 ?_
    rw [k.1.1.2.2.1]
    refine r_if_eq (pc := 95) B 105 dX8_text_95 (by decide) (fun h95 => ?_) (fun h95 => ?_)
    · skip
      refine r_iconst (pc := 105) (x := 1) B dX8_text_105 (by decide) ?_
      refine r_goto (pc := 106) B 110 dX8_text_106 (by decide) ?_
      refine r_istore_2 (pc := 110) B dX8_text_110 (by decide) rfl ?_
      first | exact tx_end B R hi (s := s) k.1 h1b (Or.inr ⟨rfl, by rw [hTX, enF, if_neg (bI_0.mp h88)], k.2 (by simpa using bI_0.mp h88)⟩) | exact tx_end B R hi (s := s) k.1 h1b (Or.inl ⟨rfl, by rw [hTX, enF, if_pos (bI_n.mp h88), if_pos h95]⟩) | exact tx_end B R hi (s := s) (k.1.ft _) h1b (Or.inr ⟨rfl, by rw [hTX, enF, if_pos (bI_n.mp h88), if_neg h95], by simp [st2]⟩)
    · skip
      refine r_aload_n (pc := 98) B dX8_text_98 rfl ?_
      refine r_cVi0 (pc := 99) B KX8_243 (e_fails l G _) rfl rfl (by decide) (Nat.le_of_ble_eq_true rfl) dX8_text_99 ?_
      rw [k.1.1.2.2.2.1]
      refine r_bz_if_eq (pc := 102) B dX8_text_102 dX8_text_105 dX8_text_106 dX8_text_109 ?_
      refine r_istore_2 (pc := 110) B dX8_text_110 (by decide) rfl ?_
      first | exact tx_end B R hi (s := s) k.1 h1b (Or.inr ⟨rfl, by rw [hTX, enF, if_neg (bI_0.mp h88)], k.2 (by simpa using bI_0.mp h88)⟩) | exact tx_end B R hi (s := s) k.1 h1b (Or.inl ⟨rfl, by rw [hTX, enF, if_pos (bI_n.mp h88), if_pos h95]⟩) | exact tx_end B R hi (s := s) (k.1.ft _) h1b (Or.inr ⟨rfl, by rw [hTX, enF, if_pos (bI_n.mp h88), if_neg h95], by simp [st2]⟩)

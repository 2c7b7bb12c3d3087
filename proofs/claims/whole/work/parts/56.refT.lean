/-! text of the reference -/
set_option maxHeartbeats 4000000 in
set_option maxRecDepth 20000 in
theorem tx_30 {l : Launch} {X : CX} {G : GG} {σ : Sg} {L : Nat} (B : Bd l X G mX8_text.2.1 mX8_text.1.cls mX8_text.2.2.1 4) (hby : byP σ L) {i m : Nat} {t : TS} {x : Nat → Int32} {ρ : Sg} {g v : Int32} {tl : Option Value} (hr : rT (cpN σ 66 68 127) ρ L t x) (hx : x 0 = nI m) (hm : m ≤ 8) (K : ∀ (ρ1 : Sg) (tl : Option Value), rE (cpN σ 66 68 127) L (itF (σ 71) L t x) ρ1 → V X G shT ρ1 [some (.ref (ad G 65)), some (.int (nI i)), some (.int g), some (.int v), tl] [.int (bI ((itF (σ 71) L t x).1 = true))] 54) : V X G shT ρ [some (.ref (ad G 65)), some (.int (nI i)), some (.int g), some (.int v), tl] [] 30 := by
  have ez : (cpN σ 66 68 127) 71 = σ 71 := cpN_ne (by decide)
  have hby2 : byP (cpN σ 66 68 127) L := by unfold byP; rw [ez]; exact hby
  refine r_aload_n (pc := 30) B dX8_text_30 rfl ?_
  refine r_cVi0 (pc := 31) B KX8_280 (e_kindHere l G _ hr.1) rfl rfl (by decide) (Nat.le_of_ble_eq_true rfl) dX8_text_31 ?_
  rw [hr.by, ez]
  refine r_istore_4 (pc := 34) B dX8_text_34 (by decide) rfl ?_
  refine r_iload (pc := 36) B dX8_text_36 rfl ?_
  refine r_if_lt (pc := 38) B 50 dX8_text_38 (by decide) (fun h38 => ?_) (fun h38 => ?_)
  · skip
    have hit : (itF (σ 71) L t x) = stR (σ 71) L t x := by
      rcases it_cs (σ 71) L t x with ⟨a, ha, e, -⟩ | ⟨-, e⟩
      · rw [e] at h38; exact absurd h38 (nI_pos (by omega))
      · exact e
    refine r_aload_n (pc := 50) B dX8_text_50 rfl ?_
    refine r_cVpi0 (pc := 51) B KX8_286 (e_streetHere l G hby2 hr) rfl rfl (by decide) (Nat.le_of_ble_eq_true rfl) dX8_text_51 (fun ρ1 k1 => ?_)
    rw [ez, ← hit] at k1
    rw [ez, ← hit]
    exact K ρ1 _ k1
  · skip
    obtain ⟨a, ha, hka, hit⟩ : ∃ a, a < 7 ∧ khR (σ 71) L t = nI a ∧ (itF (σ 71) L t x) = umF (σ 71) L a t x := by
      rcases it_cs (σ 71) L t x with q | ⟨q, -⟩
      · exact q
      · exact absurd (show khR (σ 71) L t < 0 by rw [q]; decide) h38
    refine r_aload_n (pc := 41) B dX8_text_41 rfl ?_
    refine r_iload (pc := 42) B dX8_text_42 rfl ?_
    refine r_cVpi1 (pc := 44) B KX8_283 (e_umbrellaHere l G hby2 hr (a := a) hka hx hm) rfl rfl (by decide) (Nat.le_of_ble_eq_true rfl) dX8_text_44 (fun ρ1 k1 => ?_)
    rw [ez, ← hit] at k1
    rw [ez, ← hit]
    refine r_goto (pc := 47) B 54 dX8_text_47 (by decide) ?_
    exact K ρ1 _ k1

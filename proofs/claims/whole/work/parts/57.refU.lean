/-! text of the reference -/
set_option maxHeartbeats 4000000 in
set_option maxRecDepth 20000 in
theorem tx_74 {l : Launch} {X : CX} {G : GG} {σ : Sg} {L : Nat} (B : Bd l X G mX8_text.2.1 mX8_text.1.cls mX8_text.2.2.1 4) (R : RQ X G mX8_text.2.2.2 shT (fun r τ => r = some (.int (txB σ L).1) ∧ (∀ j, j < 127 → τ 66 j = if (txB σ L).1 < 0 then σ 66 j else (txB σ L).2 j) ∧ τ 65 7 = 0 ∧ (∀ i, i < 16 → i ≠ 7 → τ 65 i = σ 65 i) ∧ ∀ k, k ≠ 65 → k ≠ 66 → k ≠ 68 → τ k = σ k)) {i : Nat} (hi : i ≤ 121) {s : RES} {ρ : Sg} {tl : Option Value} {v : Int32} (k : rE (cpN σ 66 68 127) L s ρ) (h1b : s.2.1.1 < 1000) (hTX : txB σ L = enF i s) : V X G shT ρ [some (.ref (ad G 65)), some (.int (nI i)), some (.int (bI (s.1 = true))), some (.int v), tl] [] 74 := by
  refine r_iconst (pc := 74) (x := 0) B dX8_text_74 (by decide) ?_
  refine r_istore_3 (pc := 75) B dX8_text_75 (by decide) rfl ?_
  refine r_iload_n (pc := 76) B dX8_text_76 rfl ?_
  refine r_if_eq (pc := 77) B 84 dX8_text_77 (by decide) (fun h77 => ?_) (fun h77 => ?_)
  · skip
    refine r_goto (pc := 84) B 26 dX8_text_84 (by decide) ?_
    refine r_iload_n (pc := 26) B dX8_text_26 rfl ?_
    refine r_if_eq (pc := 27) B 87 dX8_text_27 (by decide) (fun h27 => ?_) (fun h27 => ?_)
    · skip
      exact tx_87 B R hi k h1b hTX
    · skip
      exact absurd rfl h27
  · skip
    exact absurd rfl h77
set_option maxHeartbeats 4000000 in
set_option maxRecDepth 20000 in
theorem tx_54 {l : Launch} {X : CX} {G : GG} {σ : Sg} {L : Nat} (B : Bd l X G mX8_text.2.1 mX8_text.1.cls mX8_text.2.2.1 4) (R : RQ X G mX8_text.2.2.2 shT (fun r τ => r = some (.int (txB σ L).1) ∧ (∀ j, j < 127 → τ 66 j = if (txB σ L).1 < 0 then σ 66 j else (txB σ L).2 j) ∧ τ 65 7 = 0 ∧ (∀ i, i < 16 → i ≠ 7 → τ 65 i = σ 65 i) ∧ ∀ k, k ≠ 65 → k ≠ 66 → k ≠ 68 → τ k = σ k)) (hby : byP σ L) {i : Nat} (hi : i + 1 ≤ 121) {s : RES} {ρ : Sg} {tl : Option Value} {g : Int32} (k : rE (cpN σ 66 68 127) L s ρ) (h1b : s.2.1.1 < 1000) (hE : (¬ s.1 = true ∨ ¬ s.2.1.2.2.1 = 3) → txB σ L = enF (i + 1) s) (hG : s.1 = true → s.2.1.2.2.1 = 3 → ∀ (ρ2 : Sg) (tl : Option Value), rT (cpN σ 66 68 127) ρ2 L (nx (σ 71) L s.2.1) s.2.2 → V X G shT ρ2 [some (.ref (ad G 65)), some (.int (nI (i + 1))), some (.int (bI (s.1 = true))), some (.int 1), tl] [] 26) : V X G shT ρ [some (.ref (ad G 65)), some (.int (nI i)), some (.int g), some (.int 1), tl] [.int (bI (s.1 = true))] 54 := by
  have ez : (cpN σ 66 68 127) 71 = σ 71 := cpN_ne (by decide)
  have hby2 : byP (cpN σ 66 68 127) L := by unfold byP; rw [ez]; exact hby
  refine r_istore_2 (pc := 54) B dX8_text_54 (by decide) rfl ?_
  refine r_iinc_1 (pc := 55) (y := _ + 1) B dX8_text_55 rfl (by decide) rfl ?_
  rw [nI_1]
  refine r_iload_n (pc := 58) B dX8_text_58 rfl ?_
  refine r_if_eq (pc := 59) B 74 dX8_text_59 (by decide) (fun h59 => ?_) (fun h59 => ?_)
  · skip
    first | exact tx_74 B R hi k h1b (hE (Or.inl (bI_0.mp h59))) | exact tx_74 B R hi k h1b (hE (Or.inr h67))
  · skip
    refine r_aload_n (pc := 62) B dX8_text_62 rfl ?_
    refine r_geti (pc := 63) B FX8_227 rfl rfl dX8_text_63 ?_
    rw [k.1.1.2.2.1]
    refine r_iconst (pc := 66) (x := 3) B dX8_text_66 (by decide) ?_
    refine r_icmp_ne (pc := 67) B 74 dX8_text_67 (by decide) (fun h67 => ?_) (fun h67 => ?_)
    · skip
      first | exact tx_74 B R hi k h1b (hE (Or.inl (bI_0.mp h59))) | exact tx_74 B R hi k h1b (hE (Or.inr h67))
    · skip
      refine r_iconst (pc := 70) (x := 1) B dX8_text_70 (by decide) ?_
      refine r_goto (pc := 71) B 75 dX8_text_71 (by decide) ?_
      refine r_istore_3 (pc := 75) B dX8_text_75 (by decide) rfl ?_
      refine r_iload_n (pc := 76) B dX8_text_76 rfl ?_
      refine r_if_eq (pc := 77) B 84 dX8_text_77 (by decide) (fun h77 => ?_) (fun h77 => ?_)
      · skip
        exact absurd h77 (by decide)
      · skip
        refine r_aload_n (pc := 80) B dX8_text_80 rfl ?_
        refine r_cVpv0 (pc := 81) B KX8_258 (e_ntT l G hby2 k.1) rfl rfl (by decide) (Nat.le_of_ble_eq_true rfl) dX8_text_81 (fun ρ2 k2 => ?_)
        rw [ez] at k2
        refine r_goto (pc := 84) B 26 dX8_text_84 (by decide) ?_
        exact hG (bI_n.mp h59) h67 ρ2 _ k2
theorem tx_en {by1 : Nat → Int32} {L n i : Nat} {t : TS} {x : Nat → Int32} (h : ¬ (itF by1 L t x).1 = true ∨ ¬ (itF by1 L t x).2.1.2.2.1 = 3) : txN by1 L (n + 1) i t x = enF i (itF by1 L t x) := by
  rw [txN, enF]
  split
  · rename_i a
    rw [if_neg (h.elim (fun q => absurd a q) id)]
  · rfl
theorem tx_go {by1 : Nat → Int32} {L n i : Nat} {t : TS} {x : Nat → Int32} (h : (itF by1 L t x).1 = true) (h2 : (itF by1 L t x).2.1.2.2.1 = 3) : txN by1 L (n + 1) i t x = txN by1 L n (i + 1) (nx by1 L (itF by1 L t x).2.1) (itF by1 L t x).2.2 := by
  rw [txN, if_pos h, if_neg (by rw [h2]; decide), if_pos h2]
theorem tx_0 {by1 : Nat → Int32} {L i : Nat} {t : TS} {x : Nat → Int32} (h : t.2.2.1 = 0) : txN by1 L 0 i t x = enF i (itF by1 L t x) := by
  rw [it_n0 h]; rfl
set_option maxHeartbeats 4000000 in
set_option maxRecDepth 20000 in
theorem tx_26 {l : Launch} {X : CX} {G : GG} {σ : Sg} {L : Nat} (B : Bd l X G mX8_text.2.1 mX8_text.1.cls mX8_text.2.2.1 4) (R : RQ X G mX8_text.2.2.2 shT (fun r τ => r = some (.int (txB σ L).1) ∧ (∀ j, j < 127 → τ 66 j = if (txB σ L).1 < 0 then σ 66 j else (txB σ L).2 j) ∧ τ 65 7 = 0 ∧ (∀ i, i < 16 → i ≠ 7 → τ 65 i = σ 65 i) ∧ ∀ k, k ≠ 65 → k ≠ 66 → k ≠ 68 → τ k = σ k)) (hby : byP σ L) : ∀ (n i m : Nat) (ρ : Sg) (t : TS) (x : Nat → Int32) (g : Int32) (tl : Option Value), i + n = 120 → rT (cpN σ 66 68 127) ρ L t x → x 0 = nI m → m ≤ 8 → i ≤ t.2.1 → (¬ t.2.2.1 = 0 → i + 1 ≤ t.2.1) → txB σ L = txN (σ 71) L n (i + 1) t x → V X G shT ρ [some (.ref (ad G 65)), some (.int (nI i)), some (.int g), some (.int 1), tl] [] 26 := by
  intro n
  induction n with
  | zero =>
    intro i m ρ t x g tl hin hr hx hm hi1 hi2 hp
    have hL := hr.1.1
    have h8 := hr.1.2.2.2.2.2.2.2
    have h0 : t.2.2.1 = 0 := Classical.byContradiction (fun q => by have := hi2 q; omega)
    refine r_iload_n (pc := 26) B dX8_text_26 rfl ?_
    refine r_if_eq (pc := 27) B 87 dX8_text_27 (by decide) (fun h27 => absurd h27 (by decide)) (fun h27 => ?_)
    refine tx_30 B hby hr hx hm (fun ρ1 tl k1 => ?_)
    have hb := k1.1.1.2.2.2.2.2.2.1
    have hc := k1.1.1.2.2.2.2.2.2.2
    exact tx_54 B R hby (by omega) k1 (by omega) (fun _ => by rw [hp, tx_0 h0]) (fun q => absurd q (by rw [it_n0 h0]; exact Bool.false_ne_true))
  | succ n ih =>
    intro i m ρ t x g tl hin hr hx hm hi1 hi2 hp
    have hL := hr.1.1
    have h8 := hr.1.2.2.2.2.2.2.2
    refine r_iload_n (pc := 26) B dX8_text_26 rfl ?_
    refine r_if_eq (pc := 27) B 87 dX8_text_27 (by decide) (fun h27 => absurd h27 (by decide)) (fun h27 => ?_)
    refine tx_30 B hby hr hx hm (fun ρ1 tl k1 => ?_)
    have hb := k1.1.1.2.2.2.2.2.2.1
    have hc := k1.1.1.2.2.2.2.2.2.2
    refine tx_54 B R hby (by omega) k1 (by omega) (fun q => by rw [hp, tx_en q]) (fun a b ρ2 tl k2 => ?_)
    obtain ⟨m2, hm2, hx2⟩ := itF_0 (by1 := σ 71) (L := L) (t := t) hx hm
    have gt := it_gt (by1 := σ 71) (w := x) h8 a b
    have le := nx_le (by1 := σ 71) hc
    exact ih (i + 1) m2 ρ2 _ _ _ _ (by omega) k2 hx2 hm2 (by omega) (fun q => by have := tkF_gt (by1 := σ 71) hc q; have e : (nx (σ 71) L (itF (σ 71) L t x).2.1).2.1 = (tkF (σ 71) L (itF (σ 71) L t x).2.1.2.1).2.1 := rfl; omega) (by rw [hp, tx_go a b])
set_option maxHeartbeats 4000000 in
set_option maxRecDepth 20000 in
theorem e_text (l : Launch) (G : GG) (σ : Sg) {L n : Nat} (hL8 : L ≤ 120) (hL : σ 65 7 = nI L) (hby : byP σ L) (hN8 : n ≤ 8) (hN : σ 66 0 = nI n) : Ct l G mX8_text 4 shT [.ref (ad G 65)] σ (fun r τ => r = some (.int (txB σ L).1) ∧ (∀ j, j < 127 → τ 66 j = if (txB σ L).1 < 0 then σ 66 j else (txB σ L).2 j) ∧ τ 65 7 = 0 ∧ (∀ i, i < 16 → i ≠ 7 → τ 65 i = σ 65 i) ∧ ∀ k, k ≠ 65 → k ≠ 66 → k ≠ 68 → τ k = σ k) := by
  refine ct_intro (by decide) (Nat.le_of_ble_eq_true rfl) (fun X B R => ?_)
  show V X G shT σ [some (.ref (ad G 65)), none, none, none, none] [] 0
  refine r_aload_n (pc := 0) B dX8_text_0 rfl ?_
  refine r_getr (pc := 1) B FX8_7 rfl rfl dX8_text_1 ?_
  refine r_aload_n (pc := 4) B dX8_text_4 rfl ?_
  refine r_getr (pc := 5) B FX8_16 rfl rfl dX8_text_5 ?_
  refine r_cSv2 (pc := 8) B KX8_140 (e_copyRow l G _ (a := 66) (c := 68) rfl rfl (by decide)) (by decide) (Nat.le_of_ble_eq_true rfl) dX8_text_8 ?_
  refine r_aload_n (pc := 11) B dX8_text_11 rfl ?_
  refine r_iconst (pc := 12) (x := 0) B dX8_text_12 (by decide) ?_
  refine r_puti (pc := 13) B PX8_212 rfl rfl dX8_text_13 ?_
  have hc65 : (cpN σ 66 68 127) 65 = σ 65 := cpN_ne (by decide)
  have hc66 : (cpN σ 66 68 127) 66 = σ 66 := cpN_ne (by decide)
  have ez : (cpN σ 66 68 127) 71 = σ 71 := cpN_ne (by decide)
  refine r_aload_n (pc := 16) B dX8_text_16 rfl ?_
  refine r_cVpv0 (pc := 17) B KX8_258 (e_nextToken l G _ (L := L) (b := 0) hL8 (by rw [st_ne (by decide), hc65]; exact hL) (by omega) (by rw [st_at]; rfl) (by rw [st2_cl _ _ _ _ (by decide), ez]; exact hby)) rfl rfl (by decide) (Nat.le_of_ble_eq_true rfl) dX8_text_17 (fun ρ0 q0 => ?_)
  obtain ⟨qn, q1, q2, q3, q4⟩ := q0
  rw [st2_cl _ _ _ _ (by decide), ez] at q1 q2 q3 q4
  have le := tkF_le (by1 := σ 71) (L := L) (b := 0) (by omega)
  have hr : rT (cpN σ 66 68 127) ρ0 L (tkF (σ 71) L 0) (σ 66) := ⟨⟨hL8, by rw [qn.2 7 (by omega), st_ne (by decide), hc65]; exact hL, q1, q2, q3, q4, le.2.1, le.2.2⟩, by rw [qn.1 66 (by decide), st2_cl _ _ _ _ (by decide)]; exact hc66, fun k a b => by rw [qn.1 k a, st2_cl _ _ _ _ a], fun i h => by rw [qn.2 i (Or.inl h), st_ne (by omega)], tkF_v _ _ _⟩
  refine r_iconst (pc := 20) (x := 0) B dX8_text_20 (by decide) ?_
  refine r_istore_1 (pc := 21) B dX8_text_21 (by decide) rfl ?_
  refine r_iconst (pc := 22) (x := 1) B dX8_text_22 (by decide) ?_
  refine r_istore_2 (pc := 23) B dX8_text_23 (by decide) rfl ?_
  refine r_iconst (pc := 24) (x := 1) B dX8_text_24 (by decide) ?_
  refine r_istore_3 (pc := 25) B dX8_text_25 (by decide) rfl ?_
  exact tx_26 B R hby 120 0 n ρ0 _ _ _ _ rfl hr hN hN8 (by omega) (fun q => tkF_gt (by1 := σ 71) (by omega) q) rfl

/-! the law from its entry on -/
theorem HL_9 : KI RL 9 mX7_init 0 := ⟨⟨q20, q21, q1, q22⟩, ⟨rfl, rfl⟩, ⟨by decide +kernel, by decide +kernel, by decide +kernel⟩, Nat.le_of_ble_eq_true rfl⟩
theorem HL_12 : KI RL 12 mX8_init 0 := ⟨⟨q756, q757, q10, q758⟩, ⟨rfl, rfl⟩, ⟨by decide +kernel, by decide +kernel, by decide +kernel⟩, Nat.le_of_ble_eq_true rfl⟩
theorem shC_l1 : (shC ++ ([.inl (8, [nl, nl, nl, nl, nu, nl, nl, nu, nl, nl, nl, nu, nu, nu, nu, nu, nu, nu, nu, nu, nu])] : List Sh)).length = 65 + 1 := rfl
theorem n60 : (0 : Int32) = nI (6 * 0) := rfl
set_option maxHeartbeats 1000000 in
set_option maxRecDepth 40000 in
theorem law_V1 {l : Launch} {X : CX} {G : GG} {b Ls : Nat} {sc : Nat → Int32} (B : Bd l (cx X 0 0) G code RL 4 13) (hX : va_X b Ls sc (xs X) (xs X).heap) (hbl : b < (xs X).heap.size) (hbA : ¬ AA G b) (hL : Ls ≤ 3072) (hH : (xs X).heap.size = ad G 0) (hC : (xR X).cells = 600000) (hN : (xR X).slots = 7302250) (hE : ∀ (σ : Sg) (i : Nat), V (cx X 75 1631) G shT σ [some (.ref b), some (.ref (ad G 0)), some (.ref (ad G 65)), some (.int (nI (6 * i)))] [] 1362) : V (cx X 75 1631) G shT σI [some (.ref b), some (.ref (ad G 0)), none, none] [.ref (ad G 65)] 15 := by
  have B := B.mv (k' := 75) (n' := 1631) (by rw [hC]; exact Nat.le_of_ble_eq_true rfl) (by rw [hN]; exact Nat.le_of_ble_eq_true rfl)
  refine r_astore_2 (pc := 15) B dL_law_15 (by decide) rfl ?_
  refine r_iconst (pc := 16) (x := 0) B dL_law_16 (by decide) ?_
  refine r_istore_3 (pc := 17) B dL_law_17 (by decide) rfl ?_
  rw [n60]
  have h := law_loop (X := cx X 75 1631) B hX hbl hbA hL hE 513 0 (nz σI) (Nat.zero_add 513) i_wI.nz
  exact V.nz i_wI h
set_option maxHeartbeats 1000000 in
set_option maxRecDepth 40000 in
theorem law_V2 {l : Launch} {X : CX} {G : GG} {b Ls : Nat} {sc : Nat → Int32} (B : Bd l (cx X 0 0) G code RL 4 13) (hX : va_X b Ls sc (xs X) (xs X).heap) (hbl : b < (xs X).heap.size) (hbA : ¬ AA G b) (hL : Ls ≤ 3072) (hH : (xs X).heap.size = ad G 0) (hC : (xR X).cells = 600000) (hN : (xR X).slots = 7302250) (hE : ∀ (σ : Sg) (i : Nat), V (cx X 75 1631) G shT σ [some (.ref b), some (.ref (ad G 0)), some (.ref (ad G 65)), some (.int (nI (6 * i)))] [] 1362) : V (cx X 65 806) G (shC ++ []) (ioI (fun _ _ => 0) 0) [some (.ref b), none, none, none] [.ref (ad G 0)] 7 := by
  have B0 := B
  have B := B.mv (k' := 65) (n' := 806) (by rw [hC]; exact Nat.le_of_ble_eq_true rfl) (by rw [hN]; exact Nat.le_of_ble_eq_true rfl)
  refine r_astore_1 (pc := 7) B dL_law_7 (by decide) rfl ?_
  refine u_new (pc := 8) (m := 0) (loc' := [.inl (8, [nl, nl, nl, nl, nu, nl, nl, nu, nl, nl, nl, nu, nu, nu, nu, nu, nu, nu, nu, nu, nu])]) B shC_len rfl (by rw [hH]; unfold ad; omega) (by omega) tyX8 (ci := 8) (fs := [nl, nl, nl, nl, nu, nl, nl, nu, nl, nl, nl, nu, nu, nu, nu, nu, nu, nu, nu, nu, nu]) (C := RX8) (Tt := TX8) (N := 21) rfl inG8 tyX8_ok q754 q755 q10 (df8 G) (fun i => zz_io (zz0 65) (by omega) 65 (by omega) i) (by rw [hC]; exact Nat.le_of_ble_eq_true rfl) (by rw [hN]; exact Nat.le_of_ble_eq_true rfl) rfl dL_law_8 ?_
  have B := B.mv (k' := 66) (n' := 827) (by rw [hC]; exact Nat.le_of_ble_eq_true rfl) (by rw [hN]; exact Nat.le_of_ble_eq_true rfl)
  refine r_dup (pc := 11) B rfl dL_law_11 ?_
  have c12 := n_md l G (T0 := shC) shC_len (ioI (fun _ _ => 0) 0) (zz_io (zz0 _) (by omega))
  rw [shT_eq] at c12
  refine u_cI (pc := 12) (As := []) (mc := 9) (ms := 804) B HL_12 c12 (by decide) rfl shC_l1 (by rw [hH]; unfold ad; omega) (by omega) (by rw [hC]; exact Nat.le_of_ble_eq_true rfl) (by rw [hN]; exact Nat.le_of_ble_eq_true rfl) (Nat.le_of_ble_eq_true rfl) dL_law_12 rfl ?_
  exact law_V1 B0 hX hbl hbA hL hH hC hN hE
set_option maxHeartbeats 1000000 in
set_option maxRecDepth 40000 in
theorem law_V {l : Launch} {X : CX} {G : GG} {b Ls : Nat} {sc : Nat → Int32} (B : Bd l (cx X 0 0) G code RL 4 13) (hX : va_X b Ls sc (xs X) (xs X).heap) (hbl : b < (xs X).heap.size) (hbA : ¬ AA G b) (hL : Ls ≤ 3072) (hH : (xs X).heap.size = ad G 0) (hC : (xR X).cells = 600000) (hN : (xR X).slots = 7302250) (hE : ∀ (σ : Sg) (i : Nat), V (cx X 75 1631) G shT σ [some (.ref b), some (.ref (ad G 0)), some (.ref (ad G 65)), some (.int (nI (6 * i)))] [] 1362) : V (cx X 0 0) G ([] ++ []) (fun _ _ => 0) [some (.ref b), none, none, none] [] 0 := by
  have B0 := B
  refine u_new (pc := 0) (m := 0) (loc' := [.inl (7, [nl, nl, nl, nu, nl, nl, nl, nl, nl])]) B (S := 0) rfl rfl (by rw [hH]; unfold ad; omega) (by omega) tyX7 (ci := 7) (fs := [nl, nl, nl, nu, nl, nl, nl, nl, nl]) (C := RX7) (Tt := TX7) (N := 9) rfl inG7 tyX7_ok q18 q19 q1 (df7 G) (fun _ => rfl) (by rw [hC]; exact Nat.le_of_ble_eq_true rfl) (by rw [hN]; exact Nat.le_of_ble_eq_true rfl) rfl dL_law_0 ?_
  have B := B.mv (k' := 1) (n' := 9) (by rw [hC]; exact Nat.le_of_ble_eq_true rfl) (by rw [hN]; exact Nat.le_of_ble_eq_true rfl)
  refine r_dup (pc := 3) B rfl dL_law_3 ?_
  have c4 := n_io l G (T0 := []) (S := 0) rfl (fun _ _ => 0) (zz0 _)
  refine u_cI (pc := 4) (As := []) (mc := 64) (ms := 797) B HL_9 c4 (by decide) rfl rfl (by rw [hH]; unfold ad; omega) (by omega) (by rw [hC]; exact Nat.le_of_ble_eq_true rfl) (by rw [hN]; exact Nat.le_of_ble_eq_true rfl) (Nat.le_of_ble_eq_true rfl) dL_law_4 rfl ?_
  exact law_V2 B0 hX hbl hbA hL hH hC hN hE

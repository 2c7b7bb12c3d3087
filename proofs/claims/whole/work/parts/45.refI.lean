/-! words of the reference -/
abbrev tS (σ : Sg) (L : Nat) (t : TS) : Prop := L ≤ 120 ∧ σ 65 7 = nI L ∧ σ 65 16 = t.2.2.1 ∧ σ 65 17 = nI t.1 ∧ σ 65 18 = nI t.2.1 ∧ σ 65 19 = nI t.2.2.2 ∧ t.1 ≤ t.2.1 ∧ t.2.1 ≤ L
abbrev wL (t : TS) (n : Nat) : Prop := t.2.2.1 = 1 ∧ t.2.1 - t.1 = n
abbrev h3P (f : Nat → Int32) (i : Nat) (a b c : Int32) : Prop := f i = a ∧ f (i + 1) = b ∧ f (i + 2) = c
abbrev bF (σ : Sg) (L : Nat) (t : TS) : Nat → Int32 := fun j => bA (σ 71) L (t.1 + j)

set_option maxHeartbeats 4000000 in
set_option maxRecDepth 20000 in
theorem e_has3 (l : Launch) (G : GG) (σ : Sg) {L : Nat} {t : TS} (h : tS σ L t) {i : Nat} {x : Int32} (hx : x = nI i) (hi : i ≤ 8) (a b c : Int32) : CtI l G mX8_has3 1 shT [.ref (ad G 65), .int x, .int a, .int b, .int c] σ (bI (h3P (bF σ L t) i a b c)) σ := by
  subst hx
  obtain ⟨hL8, hL, h16, h17, h18, h19, hle, hlL⟩ := h
  refine ct_intro (by decide) (Nat.le_of_ble_eq_true rfl) (fun X B R => ?_)
  show V X G shT σ [some (.ref (ad G 65)), some (.int (nI i)), some (.int a), some (.int b), some (.int c)] [] 0
  refine r_aload_n (pc := 0) B dX8_has3_0 rfl ?_
  refine r_aload_n (pc := 1) B dX8_has3_1 rfl ?_
  refine r_geti (pc := 2) B FX8_215 rfl rfl dX8_has3_2 ?_
  refine r_iload_n (pc := 5) B dX8_has3_5 rfl ?_
  refine r_iadd (pc := 6) B dX8_has3_6 ?_
  refine r_cVi1 (pc := 7) B KX8_218 (e_byteAt l G _ (p := t.1 + i) (L := L) hL8 hL (by rw [h17, nI_add]) (by omega)) rfl rfl (by decide) (Nat.le_of_ble_eq_true rfl) dX8_has3_7 ?_
  refine r_iload_n (pc := 10) B dX8_has3_10 rfl ?_
  refine r_icmp_ne (pc := 11) B 51 dX8_has3_11 (by decide) (fun h11 => ?_) (fun h11 => ?_)
  · skip
    refine r_iconst (pc := 51) (x := 0) B dX8_has3_51 (by decide) ?_
    exact r_zret (pc := 52) B R (by first | decide | exact bI_01 _) dX8_has3_52 ⟨by first | (rw [← bI_f (p := h3P (bF σ L t) i a b c) (fun q => h11 q.1)]) | (rw [← bI_f (p := h3P (bF σ L t) i a b c) (fun q => h27 q.2.1)]) | (rw [← bI_f (p := h3P (bF σ L t) i a b c) (fun q => h44 q.2.2)]) | (rw [← bI_t (p := h3P (bF σ L t) i a b c) ⟨h11, h27, h44⟩]), rfl⟩
  · skip
    refine r_aload_n (pc := 14) B dX8_has3_14 rfl ?_
    refine r_aload_n (pc := 15) B dX8_has3_15 rfl ?_
    refine r_geti (pc := 16) B FX8_215 rfl rfl dX8_has3_16 ?_
    refine r_iload_n (pc := 19) B dX8_has3_19 rfl ?_
    refine r_iadd (pc := 20) B dX8_has3_20 ?_
    refine r_iconst (pc := 21) (x := 1) B dX8_has3_21 (by decide) ?_
    refine r_iadd (pc := 22) B dX8_has3_22 ?_
    refine r_cVi1 (pc := 23) B KX8_218 (e_byteAt l G _ (p := t.1 + (i + 1)) (L := L) hL8 hL (by rw [h17, nI_add, nI_1]; rfl) (by omega)) rfl rfl (by decide) (Nat.le_of_ble_eq_true rfl) dX8_has3_23 ?_
    refine r_iload_n (pc := 26) B dX8_has3_26 rfl ?_
    refine r_icmp_ne (pc := 27) B 51 dX8_has3_27 (by decide) (fun h27 => ?_) (fun h27 => ?_)
    · skip
      refine r_iconst (pc := 51) (x := 0) B dX8_has3_51 (by decide) ?_
      exact r_zret (pc := 52) B R (by first | decide | exact bI_01 _) dX8_has3_52 ⟨by first | (rw [← bI_f (p := h3P (bF σ L t) i a b c) (fun q => h11 q.1)]) | (rw [← bI_f (p := h3P (bF σ L t) i a b c) (fun q => h27 q.2.1)]) | (rw [← bI_f (p := h3P (bF σ L t) i a b c) (fun q => h44 q.2.2)]) | (rw [← bI_t (p := h3P (bF σ L t) i a b c) ⟨h11, h27, h44⟩]), rfl⟩
    · skip
      refine r_aload_n (pc := 30) B dX8_has3_30 rfl ?_
      refine r_aload_n (pc := 31) B dX8_has3_31 rfl ?_
      refine r_geti (pc := 32) B FX8_215 rfl rfl dX8_has3_32 ?_
      refine r_iload_n (pc := 35) B dX8_has3_35 rfl ?_
      refine r_iadd (pc := 36) B dX8_has3_36 ?_
      refine r_iconst (pc := 37) (x := 2) B dX8_has3_37 (by decide) ?_
      refine r_iadd (pc := 38) B dX8_has3_38 ?_
      refine r_cVi1 (pc := 39) B KX8_218 (e_byteAt l G _ (p := t.1 + (i + 2)) (L := L) hL8 hL (by rw [h17, nI_add, show (2 : Int32) = nI 2 from rfl, nI_add]; rfl) (by omega)) rfl rfl (by decide) (Nat.le_of_ble_eq_true rfl) dX8_has3_39 ?_
      refine r_iload (pc := 42) B dX8_has3_42 rfl ?_
      refine r_icmp_ne (pc := 44) B 51 dX8_has3_44 (by decide) (fun h44 => ?_) (fun h44 => ?_)
      · skip
        refine r_iconst (pc := 51) (x := 0) B dX8_has3_51 (by decide) ?_
        exact r_zret (pc := 52) B R (by first | decide | exact bI_01 _) dX8_has3_52 ⟨by first | (rw [← bI_f (p := h3P (bF σ L t) i a b c) (fun q => h11 q.1)]) | (rw [← bI_f (p := h3P (bF σ L t) i a b c) (fun q => h27 q.2.1)]) | (rw [← bI_f (p := h3P (bF σ L t) i a b c) (fun q => h44 q.2.2)]) | (rw [← bI_t (p := h3P (bF σ L t) i a b c) ⟨h11, h27, h44⟩]), rfl⟩
      · skip
        refine r_iconst (pc := 47) (x := 1) B dX8_has3_47 (by decide) ?_
        refine r_goto (pc := 48) B 52 dX8_has3_48 (by decide) ?_
        exact r_zret (pc := 52) B R (by first | decide | exact bI_01 _) dX8_has3_52 ⟨by first | (rw [← bI_f (p := h3P (bF σ L t) i a b c) (fun q => h11 q.1)]) | (rw [← bI_f (p := h3P (bF σ L t) i a b c) (fun q => h27 q.2.1)]) | (rw [← bI_f (p := h3P (bF σ L t) i a b c) (fun q => h44 q.2.2)]) | (rw [← bI_t (p := h3P (bF σ L t) i a b c) ⟨h11, h27, h44⟩]), rfl⟩
set_option maxHeartbeats 4000000 in
set_option maxRecDepth 20000 in
theorem e_isWord (l : Launch) (G : GG) (σ : Sg) {L : Nat} {t : TS} (h : tS σ L t) {n : Nat} {x : Int32} (hx : x = nI n) (hn : n ≤ 20) : CtI l G mX8_isWord 0 shT [.ref (ad G 65), .int x] σ (bI (wL t n)) σ := by
  subst hx
  obtain ⟨hL8, hL, h16, h17, h18, h19, hle, hlL⟩ := h
  refine ct_intro (by decide) (Nat.le_of_ble_eq_true rfl) (fun X B R => ?_)
  show V X G shT σ [some (.ref (ad G 65)), some (.int (nI n))] [] 0
  refine r_aload_n (pc := 0) B dX8_isWord_0 rfl ?_
  refine r_geti (pc := 1) B FX8_227 rfl rfl dX8_isWord_1 ?_
  rw [h16]
  refine r_iconst (pc := 4) (x := 1) B dX8_isWord_4 (by decide) ?_
  refine r_icmp_ne (pc := 5) B 25 dX8_isWord_5 (by decide) (fun h5 => ?_) (fun h5 => ?_)
  · skip
    refine r_iconst (pc := 25) (x := 0) B dX8_isWord_25 (by decide) ?_
    exact r_zret (pc := 26) B R (by first | decide | exact bI_01 _) dX8_isWord_26 ⟨by first | (rw [← bI_f (p := wL t n) (fun q => h5 q.1)]) | (rw [← bI_f (p := wL t n) (fun q => h18_1 (by rw [q.2]))]) | (rw [← bI_t (p := wL t n) ⟨h5, (nI_eq (by omega) (by omega)).mp h18_1⟩]), rfl⟩
  · skip
    refine r_aload_n (pc := 8) B dX8_isWord_8 rfl ?_
    refine r_geti (pc := 9) B FX8_212 rfl rfl dX8_isWord_9 ?_
    rw [h18]
    refine r_aload_n (pc := 12) B dX8_isWord_12 rfl ?_
    refine r_geti (pc := 13) B FX8_215 rfl rfl dX8_isWord_13 ?_
    rw [h17]
    refine r_isub (pc := 16) B dX8_isWord_16 ?_
    rw [nI_sb hle]
    refine r_iload_n (pc := 17) B dX8_isWord_17 rfl ?_
    refine r_icmp_ne (pc := 18) B 25 dX8_isWord_18 (by decide) (fun h18_1 => ?_) (fun h18_1 => ?_)
    · skip
      refine r_iconst (pc := 25) (x := 0) B dX8_isWord_25 (by decide) ?_
      exact r_zret (pc := 26) B R (by first | decide | exact bI_01 _) dX8_isWord_26 ⟨by first | (rw [← bI_f (p := wL t n) (fun q => h5 q.1)]) | (rw [← bI_f (p := wL t n) (fun q => h18_1 (by rw [q.2]))]) | (rw [← bI_t (p := wL t n) ⟨h5, (nI_eq (by omega) (by omega)).mp h18_1⟩]), rfl⟩
    · skip
      refine r_iconst (pc := 21) (x := 1) B dX8_isWord_21 (by decide) ?_
      refine r_goto (pc := 22) B 26 dX8_isWord_22 (by decide) ?_
      exact r_zret (pc := 26) B R (by first | decide | exact bI_01 _) dX8_isWord_26 ⟨by first | (rw [← bI_f (p := wL t n) (fun q => h5 q.1)]) | (rw [← bI_f (p := wL t n) (fun q => h18_1 (by rw [q.2]))]) | (rw [← bI_t (p := wL t n) ⟨h5, (nI_eq (by omega) (by omega)).mp h18_1⟩]), rfl⟩
set_option maxHeartbeats 4000000 in
set_option maxRecDepth 20000 in
theorem e_fails (l : Launch) (G : GG) (σ : Sg) : CtI l G mX8_fails 0 shT [.ref (ad G 65)] σ 0 (st2 σ 65 20 (σ 65 17)) := by
  refine ct_intro (by decide) (Nat.le_of_ble_eq_true rfl) (fun X B R => ?_)
  show V X G shT σ [some (.ref (ad G 65))] [] 0
  refine r_aload_n (pc := 0) B dX8_fails_0 rfl ?_
  refine r_aload_n (pc := 1) B dX8_fails_1 rfl ?_
  refine r_geti (pc := 2) B FX8_215 rfl rfl dX8_fails_2 ?_
  refine r_puti (pc := 5) B PX8_233 rfl rfl dX8_fails_5 ?_
  refine r_iconst (pc := 8) (x := 0) B dX8_fails_8 (by decide) ?_
  exact r_zret (pc := 9) B R (by first | decide | exact bI_01 _) dX8_fails_9 ⟨rfl, rfl⟩
set_option maxHeartbeats 4000000 in
set_option maxRecDepth 20000 in
theorem e_isFour (l : Launch) (G : GG) (σ : Sg) {L : Nat} {t : TS} (h : tS σ L t) (a b c d : Int32) : CtI l G mX8_isFour 2 shT [.ref (ad G 65), .int a, .int b, .int c, .int d] σ (bI (wL t 4 ∧ h3P (bF σ L t) 0 a b c ∧ h3P (bF σ L t) 1 b c d)) σ := by
  refine ct_intro (by decide) (Nat.le_of_ble_eq_true rfl) (fun X B R => ?_)
  show V X G shT σ [some (.ref (ad G 65)), some (.int a), some (.int b), some (.int c), some (.int d)] [] 0
  refine r_aload_n (pc := 0) B dX8_isFour_0 rfl ?_
  refine r_iconst (pc := 1) (x := 4) B dX8_isFour_1 (by decide) ?_
  refine r_cVi1 (pc := 2) B KX8_236 (e_isWord l G _ h (n := 4) rfl (by decide)) rfl rfl (by decide) (Nat.le_of_ble_eq_true rfl) dX8_isFour_2 ?_
  refine r_if_eq (pc := 5) B 35 dX8_isFour_5 (by decide) (fun h5 => ?_) (fun h5 => ?_)
  · skip
    refine r_iconst (pc := 35) (x := 0) B dX8_isFour_35 (by decide) ?_
    exact r_zret (pc := 36) B R (by first | decide | exact bI_01 _) dX8_isFour_36 ⟨by first | (rw [← bI_f (p := (wL t 4 ∧ h3P (bF σ L t) 0 a b c ∧ h3P (bF σ L t) 1 b c d)) (fun q => bI_0.mp h5 q.1)]) | (rw [← bI_f (p := (wL t 4 ∧ h3P (bF σ L t) 0 a b c ∧ h3P (bF σ L t) 1 b c d)) (fun q => bI_0.mp h16 q.2.1)]) | (rw [← bI_f (p := (wL t 4 ∧ h3P (bF σ L t) 0 a b c ∧ h3P (bF σ L t) 1 b c d)) (fun q => bI_0.mp h28 q.2.2)]) | (rw [← bI_t (p := (wL t 4 ∧ h3P (bF σ L t) 0 a b c ∧ h3P (bF σ L t) 1 b c d)) ⟨bI_n.mp h5, bI_n.mp h16, bI_n.mp h28⟩]), rfl⟩
  · skip
    refine r_aload_n (pc := 8) B dX8_isFour_8 rfl ?_
    refine r_iconst (pc := 9) (x := 0) B dX8_isFour_9 (by decide) ?_
    refine r_iload_n (pc := 10) B dX8_isFour_10 rfl ?_
    refine r_iload_n (pc := 11) B dX8_isFour_11 rfl ?_
    refine r_iload_n (pc := 12) B dX8_isFour_12 rfl ?_
    refine r_cVi4 (pc := 13) B KX8_239 (e_has3 l G _ h (i := 0) rfl (by decide) _ _ _) rfl rfl (by decide) (Nat.le_of_ble_eq_true rfl) dX8_isFour_13 ?_
    refine r_if_eq (pc := 16) B 35 dX8_isFour_16 (by decide) (fun h16 => ?_) (fun h16 => ?_)
    · skip
      refine r_iconst (pc := 35) (x := 0) B dX8_isFour_35 (by decide) ?_
      exact r_zret (pc := 36) B R (by first | decide | exact bI_01 _) dX8_isFour_36 ⟨by first | (rw [← bI_f (p := (wL t 4 ∧ h3P (bF σ L t) 0 a b c ∧ h3P (bF σ L t) 1 b c d)) (fun q => bI_0.mp h5 q.1)]) | (rw [← bI_f (p := (wL t 4 ∧ h3P (bF σ L t) 0 a b c ∧ h3P (bF σ L t) 1 b c d)) (fun q => bI_0.mp h16 q.2.1)]) | (rw [← bI_f (p := (wL t 4 ∧ h3P (bF σ L t) 0 a b c ∧ h3P (bF σ L t) 1 b c d)) (fun q => bI_0.mp h28 q.2.2)]) | (rw [← bI_t (p := (wL t 4 ∧ h3P (bF σ L t) 0 a b c ∧ h3P (bF σ L t) 1 b c d)) ⟨bI_n.mp h5, bI_n.mp h16, bI_n.mp h28⟩]), rfl⟩
    · skip
      refine r_aload_n (pc := 19) B dX8_isFour_19 rfl ?_
      refine r_iconst (pc := 20) (x := 1) B dX8_isFour_20 (by decide) ?_
      refine r_iload_n (pc := 21) B dX8_isFour_21 rfl ?_
      refine r_iload_n (pc := 22) B dX8_isFour_22 rfl ?_
      refine r_iload (pc := 23) B dX8_isFour_23 rfl ?_
      refine r_cVi4 (pc := 25) B KX8_239 (e_has3 l G _ h (i := 1) rfl (by decide) _ _ _) rfl rfl (by decide) (Nat.le_of_ble_eq_true rfl) dX8_isFour_25 ?_
      refine r_if_eq (pc := 28) B 35 dX8_isFour_28 (by decide) (fun h28 => ?_) (fun h28 => ?_)
      · skip
        refine r_iconst (pc := 35) (x := 0) B dX8_isFour_35 (by decide) ?_
        exact r_zret (pc := 36) B R (by first | decide | exact bI_01 _) dX8_isFour_36 ⟨by first | (rw [← bI_f (p := (wL t 4 ∧ h3P (bF σ L t) 0 a b c ∧ h3P (bF σ L t) 1 b c d)) (fun q => bI_0.mp h5 q.1)]) | (rw [← bI_f (p := (wL t 4 ∧ h3P (bF σ L t) 0 a b c ∧ h3P (bF σ L t) 1 b c d)) (fun q => bI_0.mp h16 q.2.1)]) | (rw [← bI_f (p := (wL t 4 ∧ h3P (bF σ L t) 0 a b c ∧ h3P (bF σ L t) 1 b c d)) (fun q => bI_0.mp h28 q.2.2)]) | (rw [← bI_t (p := (wL t 4 ∧ h3P (bF σ L t) 0 a b c ∧ h3P (bF σ L t) 1 b c d)) ⟨bI_n.mp h5, bI_n.mp h16, bI_n.mp h28⟩]), rfl⟩
      · skip
        refine r_iconst (pc := 31) (x := 1) B dX8_isFour_31 (by decide) ?_
        refine r_goto (pc := 32) B 36 dX8_isFour_32 (by decide) ?_
        exact r_zret (pc := 36) B R (by first | decide | exact bI_01 _) dX8_isFour_36 ⟨by first | (rw [← bI_f (p := (wL t 4 ∧ h3P (bF σ L t) 0 a b c ∧ h3P (bF σ L t) 1 b c d)) (fun q => bI_0.mp h5 q.1)]) | (rw [← bI_f (p := (wL t 4 ∧ h3P (bF σ L t) 0 a b c ∧ h3P (bF σ L t) 1 b c d)) (fun q => bI_0.mp h16 q.2.1)]) | (rw [← bI_f (p := (wL t 4 ∧ h3P (bF σ L t) 0 a b c ∧ h3P (bF σ L t) 1 b c d)) (fun q => bI_0.mp h28 q.2.2)]) | (rw [← bI_t (p := (wL t 4 ∧ h3P (bF σ L t) 0 a b c ∧ h3P (bF σ L t) 1 b c d)) ⟨bI_n.mp h5, bI_n.mp h16, bI_n.mp h28⟩]), rfl⟩
set_option maxHeartbeats 4000000 in
set_option maxRecDepth 20000 in
theorem e_isFive (l : Launch) (G : GG) (σ : Sg) {L : Nat} {t : TS} (h : tS σ L t) (a b c d e : Int32) : CtI l G mX8_isFive 2 shT [.ref (ad G 65), .int a, .int b, .int c, .int d, .int e] σ (bI (wL t 5 ∧ h3P (bF σ L t) 0 a b c ∧ h3P (bF σ L t) 2 c d e)) σ := by
  refine ct_intro (by decide) (Nat.le_of_ble_eq_true rfl) (fun X B R => ?_)
  show V X G shT σ [some (.ref (ad G 65)), some (.int a), some (.int b), some (.int c), some (.int d), some (.int e)] [] 0
  refine r_aload_n (pc := 0) B dX8_isFive_0 rfl ?_
  refine r_iconst (pc := 1) (x := 5) B dX8_isFive_1 (by decide) ?_
  refine r_cVi1 (pc := 2) B KX8_236 (e_isWord l G _ h (n := 5) rfl (by decide)) rfl rfl (by decide) (Nat.le_of_ble_eq_true rfl) dX8_isFive_2 ?_
  refine r_if_eq (pc := 5) B 36 dX8_isFive_5 (by decide) (fun h5 => ?_) (fun h5 => ?_)
  · skip
    refine r_iconst (pc := 36) (x := 0) B dX8_isFive_36 (by decide) ?_
    exact r_zret (pc := 37) B R (by first | decide | exact bI_01 _) dX8_isFive_37 ⟨by first | (rw [← bI_f (p := (wL t 5 ∧ h3P (bF σ L t) 0 a b c ∧ h3P (bF σ L t) 2 c d e)) (fun q => bI_0.mp h5 q.1)]) | (rw [← bI_f (p := (wL t 5 ∧ h3P (bF σ L t) 0 a b c ∧ h3P (bF σ L t) 2 c d e)) (fun q => bI_0.mp h16 q.2.1)]) | (rw [← bI_f (p := (wL t 5 ∧ h3P (bF σ L t) 0 a b c ∧ h3P (bF σ L t) 2 c d e)) (fun q => bI_0.mp h29 q.2.2)]) | (rw [← bI_t (p := (wL t 5 ∧ h3P (bF σ L t) 0 a b c ∧ h3P (bF σ L t) 2 c d e)) ⟨bI_n.mp h5, bI_n.mp h16, bI_n.mp h29⟩]), rfl⟩
  · skip
    refine r_aload_n (pc := 8) B dX8_isFive_8 rfl ?_
    refine r_iconst (pc := 9) (x := 0) B dX8_isFive_9 (by decide) ?_
    refine r_iload_n (pc := 10) B dX8_isFive_10 rfl ?_
    refine r_iload_n (pc := 11) B dX8_isFive_11 rfl ?_
    refine r_iload_n (pc := 12) B dX8_isFive_12 rfl ?_
    refine r_cVi4 (pc := 13) B KX8_239 (e_has3 l G _ h (i := 0) rfl (by decide) _ _ _) rfl rfl (by decide) (Nat.le_of_ble_eq_true rfl) dX8_isFive_13 ?_
    refine r_if_eq (pc := 16) B 36 dX8_isFive_16 (by decide) (fun h16 => ?_) (fun h16 => ?_)
    · skip
      refine r_iconst (pc := 36) (x := 0) B dX8_isFive_36 (by decide) ?_
      exact r_zret (pc := 37) B R (by first | decide | exact bI_01 _) dX8_isFive_37 ⟨by first | (rw [← bI_f (p := (wL t 5 ∧ h3P (bF σ L t) 0 a b c ∧ h3P (bF σ L t) 2 c d e)) (fun q => bI_0.mp h5 q.1)]) | (rw [← bI_f (p := (wL t 5 ∧ h3P (bF σ L t) 0 a b c ∧ h3P (bF σ L t) 2 c d e)) (fun q => bI_0.mp h16 q.2.1)]) | (rw [← bI_f (p := (wL t 5 ∧ h3P (bF σ L t) 0 a b c ∧ h3P (bF σ L t) 2 c d e)) (fun q => bI_0.mp h29 q.2.2)]) | (rw [← bI_t (p := (wL t 5 ∧ h3P (bF σ L t) 0 a b c ∧ h3P (bF σ L t) 2 c d e)) ⟨bI_n.mp h5, bI_n.mp h16, bI_n.mp h29⟩]), rfl⟩
    · skip
      refine r_aload_n (pc := 19) B dX8_isFive_19 rfl ?_
      refine r_iconst (pc := 20) (x := 2) B dX8_isFive_20 (by decide) ?_
      refine r_iload_n (pc := 21) B dX8_isFive_21 rfl ?_
      refine r_iload (pc := 22) B dX8_isFive_22 rfl ?_
      refine r_iload (pc := 24) B dX8_isFive_24 rfl ?_
      refine r_cVi4 (pc := 26) B KX8_239 (e_has3 l G _ h (i := 2) rfl (by decide) _ _ _) rfl rfl (by decide) (Nat.le_of_ble_eq_true rfl) dX8_isFive_26 ?_
      refine r_if_eq (pc := 29) B 36 dX8_isFive_29 (by decide) (fun h29 => ?_) (fun h29 => ?_)
      · skip
        refine r_iconst (pc := 36) (x := 0) B dX8_isFive_36 (by decide) ?_
        exact r_zret (pc := 37) B R (by first | decide | exact bI_01 _) dX8_isFive_37 ⟨by first | (rw [← bI_f (p := (wL t 5 ∧ h3P (bF σ L t) 0 a b c ∧ h3P (bF σ L t) 2 c d e)) (fun q => bI_0.mp h5 q.1)]) | (rw [← bI_f (p := (wL t 5 ∧ h3P (bF σ L t) 0 a b c ∧ h3P (bF σ L t) 2 c d e)) (fun q => bI_0.mp h16 q.2.1)]) | (rw [← bI_f (p := (wL t 5 ∧ h3P (bF σ L t) 0 a b c ∧ h3P (bF σ L t) 2 c d e)) (fun q => bI_0.mp h29 q.2.2)]) | (rw [← bI_t (p := (wL t 5 ∧ h3P (bF σ L t) 0 a b c ∧ h3P (bF σ L t) 2 c d e)) ⟨bI_n.mp h5, bI_n.mp h16, bI_n.mp h29⟩]), rfl⟩
      · skip
        refine r_iconst (pc := 32) (x := 1) B dX8_isFive_32 (by decide) ?_
        refine r_goto (pc := 33) B 37 dX8_isFive_33 (by decide) ?_
        exact r_zret (pc := 37) B R (by first | decide | exact bI_01 _) dX8_isFive_37 ⟨by first | (rw [← bI_f (p := (wL t 5 ∧ h3P (bF σ L t) 0 a b c ∧ h3P (bF σ L t) 2 c d e)) (fun q => bI_0.mp h5 q.1)]) | (rw [← bI_f (p := (wL t 5 ∧ h3P (bF σ L t) 0 a b c ∧ h3P (bF σ L t) 2 c d e)) (fun q => bI_0.mp h16 q.2.1)]) | (rw [← bI_f (p := (wL t 5 ∧ h3P (bF σ L t) 0 a b c ∧ h3P (bF σ L t) 2 c d e)) (fun q => bI_0.mp h29 q.2.2)]) | (rw [← bI_t (p := (wL t 5 ∧ h3P (bF σ L t) 0 a b c ∧ h3P (bF σ L t) 2 c d e)) ⟨bI_n.mp h5, bI_n.mp h16, bI_n.mp h29⟩]), rfl⟩
set_option maxHeartbeats 4000000 in
set_option maxRecDepth 20000 in
theorem e_isSix (l : Launch) (G : GG) (σ : Sg) {L : Nat} {t : TS} (h : tS σ L t) (a b c d e f : Int32) : CtI l G mX8_isSix 2 shT [.ref (ad G 65), .int a, .int b, .int c, .int d, .int e, .int f] σ (bI (wL t 6 ∧ h3P (bF σ L t) 0 a b c ∧ h3P (bF σ L t) 3 d e f)) σ := by
  refine ct_intro (by decide) (Nat.le_of_ble_eq_true rfl) (fun X B R => ?_)
  show V X G shT σ [some (.ref (ad G 65)), some (.int a), some (.int b), some (.int c), some (.int d), some (.int e), some (.int f)] [] 0
  refine r_aload_n (pc := 0) B dX8_isSix_0 rfl ?_
  refine r_bipush (pc := 1) (x := 6) B dX8_isSix_1 (by decide) ?_
  refine r_cVi1 (pc := 3) B KX8_236 (e_isWord l G _ h (n := 6) rfl (by decide)) rfl rfl (by decide) (Nat.le_of_ble_eq_true rfl) dX8_isSix_3 ?_
  refine r_if_eq (pc := 6) B 38 dX8_isSix_6 (by decide) (fun h6 => ?_) (fun h6 => ?_)
  · skip
    refine r_iconst (pc := 38) (x := 0) B dX8_isSix_38 (by decide) ?_
    exact r_zret (pc := 39) B R (by first | decide | exact bI_01 _) dX8_isSix_39 ⟨by first | (rw [← bI_f (p := (wL t 6 ∧ h3P (bF σ L t) 0 a b c ∧ h3P (bF σ L t) 3 d e f)) (fun q => bI_0.mp h6 q.1)]) | (rw [← bI_f (p := (wL t 6 ∧ h3P (bF σ L t) 0 a b c ∧ h3P (bF σ L t) 3 d e f)) (fun q => bI_0.mp h17 q.2.1)]) | (rw [← bI_f (p := (wL t 6 ∧ h3P (bF σ L t) 0 a b c ∧ h3P (bF σ L t) 3 d e f)) (fun q => bI_0.mp h31 q.2.2)]) | (rw [← bI_t (p := (wL t 6 ∧ h3P (bF σ L t) 0 a b c ∧ h3P (bF σ L t) 3 d e f)) ⟨bI_n.mp h6, bI_n.mp h17, bI_n.mp h31⟩]), rfl⟩
  · skip
    refine r_aload_n (pc := 9) B dX8_isSix_9 rfl ?_
    refine r_iconst (pc := 10) (x := 0) B dX8_isSix_10 (by decide) ?_
    refine r_iload_n (pc := 11) B dX8_isSix_11 rfl ?_
    refine r_iload_n (pc := 12) B dX8_isSix_12 rfl ?_
    refine r_iload_n (pc := 13) B dX8_isSix_13 rfl ?_
    refine r_cVi4 (pc := 14) B KX8_239 (e_has3 l G _ h (i := 0) rfl (by decide) _ _ _) rfl rfl (by decide) (Nat.le_of_ble_eq_true rfl) dX8_isSix_14 ?_
    refine r_if_eq (pc := 17) B 38 dX8_isSix_17 (by decide) (fun h17 => ?_) (fun h17 => ?_)
    · skip
      refine r_iconst (pc := 38) (x := 0) B dX8_isSix_38 (by decide) ?_
      exact r_zret (pc := 39) B R (by first | decide | exact bI_01 _) dX8_isSix_39 ⟨by first | (rw [← bI_f (p := (wL t 6 ∧ h3P (bF σ L t) 0 a b c ∧ h3P (bF σ L t) 3 d e f)) (fun q => bI_0.mp h6 q.1)]) | (rw [← bI_f (p := (wL t 6 ∧ h3P (bF σ L t) 0 a b c ∧ h3P (bF σ L t) 3 d e f)) (fun q => bI_0.mp h17 q.2.1)]) | (rw [← bI_f (p := (wL t 6 ∧ h3P (bF σ L t) 0 a b c ∧ h3P (bF σ L t) 3 d e f)) (fun q => bI_0.mp h31 q.2.2)]) | (rw [← bI_t (p := (wL t 6 ∧ h3P (bF σ L t) 0 a b c ∧ h3P (bF σ L t) 3 d e f)) ⟨bI_n.mp h6, bI_n.mp h17, bI_n.mp h31⟩]), rfl⟩
    · skip
      refine r_aload_n (pc := 20) B dX8_isSix_20 rfl ?_
      refine r_iconst (pc := 21) (x := 3) B dX8_isSix_21 (by decide) ?_
      refine r_iload (pc := 22) B dX8_isSix_22 rfl ?_
      refine r_iload (pc := 24) B dX8_isSix_24 rfl ?_
      refine r_iload (pc := 26) B dX8_isSix_26 rfl ?_
      refine r_cVi4 (pc := 28) B KX8_239 (e_has3 l G _ h (i := 3) rfl (by decide) _ _ _) rfl rfl (by decide) (Nat.le_of_ble_eq_true rfl) dX8_isSix_28 ?_
      refine r_if_eq (pc := 31) B 38 dX8_isSix_31 (by decide) (fun h31 => ?_) (fun h31 => ?_)
      · skip
        refine r_iconst (pc := 38) (x := 0) B dX8_isSix_38 (by decide) ?_
        exact r_zret (pc := 39) B R (by first | decide | exact bI_01 _) dX8_isSix_39 ⟨by first | (rw [← bI_f (p := (wL t 6 ∧ h3P (bF σ L t) 0 a b c ∧ h3P (bF σ L t) 3 d e f)) (fun q => bI_0.mp h6 q.1)]) | (rw [← bI_f (p := (wL t 6 ∧ h3P (bF σ L t) 0 a b c ∧ h3P (bF σ L t) 3 d e f)) (fun q => bI_0.mp h17 q.2.1)]) | (rw [← bI_f (p := (wL t 6 ∧ h3P (bF σ L t) 0 a b c ∧ h3P (bF σ L t) 3 d e f)) (fun q => bI_0.mp h31 q.2.2)]) | (rw [← bI_t (p := (wL t 6 ∧ h3P (bF σ L t) 0 a b c ∧ h3P (bF σ L t) 3 d e f)) ⟨bI_n.mp h6, bI_n.mp h17, bI_n.mp h31⟩]), rfl⟩
      · skip
        refine r_iconst (pc := 34) (x := 1) B dX8_isSix_34 (by decide) ?_
        refine r_goto (pc := 35) B 39 dX8_isSix_35 (by decide) ?_
        exact r_zret (pc := 39) B R (by first | decide | exact bI_01 _) dX8_isSix_39 ⟨by first | (rw [← bI_f (p := (wL t 6 ∧ h3P (bF σ L t) 0 a b c ∧ h3P (bF σ L t) 3 d e f)) (fun q => bI_0.mp h6 q.1)]) | (rw [← bI_f (p := (wL t 6 ∧ h3P (bF σ L t) 0 a b c ∧ h3P (bF σ L t) 3 d e f)) (fun q => bI_0.mp h17 q.2.1)]) | (rw [← bI_f (p := (wL t 6 ∧ h3P (bF σ L t) 0 a b c ∧ h3P (bF σ L t) 3 d e f)) (fun q => bI_0.mp h31 q.2.2)]) | (rw [← bI_t (p := (wL t 6 ∧ h3P (bF σ L t) 0 a b c ∧ h3P (bF σ L t) 3 d e f)) ⟨bI_n.mp h6, bI_n.mp h17, bI_n.mp h31⟩]), rfl⟩
set_option maxHeartbeats 4000000 in
set_option maxRecDepth 20000 in
theorem e_isTwo (l : Launch) (G : GG) (σ : Sg) {L : Nat} {t : TS} (h : tS σ L t) (a b : Int32) : CtI l G mX8_isTwo 1 shT [.ref (ad G 65), .int a, .int b] σ (bI (wL t 2 ∧ bF σ L t 0 = a ∧ bF σ L t 1 = b)) σ := by
  have hh := h
  obtain ⟨hL8, hL, h16_, h17_, h18_, h19_, hle, hlL⟩ := hh
  refine ct_intro (by decide) (Nat.le_of_ble_eq_true rfl) (fun X B R => ?_)
  show V X G shT σ [some (.ref (ad G 65)), some (.int a), some (.int b)] [] 0
  refine r_aload_n (pc := 0) B dX8_isTwo_0 rfl ?_
  refine r_iconst (pc := 1) (x := 2) B dX8_isTwo_1 (by decide) ?_
  refine r_cVi1 (pc := 2) B KX8_236 (e_isWord l G _ h (n := 2) rfl (by decide)) rfl rfl (by decide) (Nat.le_of_ble_eq_true rfl) dX8_isTwo_2 ?_
  refine r_if_eq (pc := 5) B 38 dX8_isTwo_5 (by decide) (fun h5 => ?_) (fun h5 => ?_)
  · skip
    refine r_iconst (pc := 38) (x := 0) B dX8_isTwo_38 (by decide) ?_
    exact r_zret (pc := 39) B R (by first | decide | exact bI_01 _) dX8_isTwo_39 ⟨by first | (rw [← bI_f (p := (wL t 2 ∧ bF σ L t 0 = a ∧ bF σ L t 1 = b)) (fun q => bI_0.mp h5 q.1)]) | (rw [← bI_f (p := (wL t 2 ∧ bF σ L t 0 = a ∧ bF σ L t 1 = b)) (fun q => h17 q.2.1)]) | (rw [← bI_f (p := (wL t 2 ∧ bF σ L t 0 = a ∧ bF σ L t 1 = b)) (fun q => h31 q.2.2)]) | (rw [← bI_t (p := (wL t 2 ∧ bF σ L t 0 = a ∧ bF σ L t 1 = b)) ⟨bI_n.mp h5, h17, h31⟩]), rfl⟩
  · skip
    refine r_aload_n (pc := 8) B dX8_isTwo_8 rfl ?_
    refine r_aload_n (pc := 9) B dX8_isTwo_9 rfl ?_
    refine r_geti (pc := 10) B FX8_215 rfl rfl dX8_isTwo_10 ?_
    refine r_cVi1 (pc := 13) B KX8_218 (e_byteAt l G _ (p := t.1 + 0) (L := L) hL8 hL h17_ (by omega)) rfl rfl (by decide) (Nat.le_of_ble_eq_true rfl) dX8_isTwo_13 ?_
    refine r_iload_n (pc := 16) B dX8_isTwo_16 rfl ?_
    refine r_icmp_ne (pc := 17) B 38 dX8_isTwo_17 (by decide) (fun h17 => ?_) (fun h17 => ?_)
    · skip
      refine r_iconst (pc := 38) (x := 0) B dX8_isTwo_38 (by decide) ?_
      exact r_zret (pc := 39) B R (by first | decide | exact bI_01 _) dX8_isTwo_39 ⟨by first | (rw [← bI_f (p := (wL t 2 ∧ bF σ L t 0 = a ∧ bF σ L t 1 = b)) (fun q => bI_0.mp h5 q.1)]) | (rw [← bI_f (p := (wL t 2 ∧ bF σ L t 0 = a ∧ bF σ L t 1 = b)) (fun q => h17 q.2.1)]) | (rw [← bI_f (p := (wL t 2 ∧ bF σ L t 0 = a ∧ bF σ L t 1 = b)) (fun q => h31 q.2.2)]) | (rw [← bI_t (p := (wL t 2 ∧ bF σ L t 0 = a ∧ bF σ L t 1 = b)) ⟨bI_n.mp h5, h17, h31⟩]), rfl⟩
    · skip
      refine r_aload_n (pc := 20) B dX8_isTwo_20 rfl ?_
      refine r_aload_n (pc := 21) B dX8_isTwo_21 rfl ?_
      refine r_geti (pc := 22) B FX8_215 rfl rfl dX8_isTwo_22 ?_
      refine r_iconst (pc := 25) (x := 1) B dX8_isTwo_25 (by decide) ?_
      refine r_iadd (pc := 26) B dX8_isTwo_26 ?_
      refine r_cVi1 (pc := 27) B KX8_218 (e_byteAt l G _ (p := t.1 + 1) (L := L) hL8 hL (by rw [h17_, nI_1]) (by omega)) rfl rfl (by decide) (Nat.le_of_ble_eq_true rfl) dX8_isTwo_27 ?_
      refine r_iload_n (pc := 30) B dX8_isTwo_30 rfl ?_
      refine r_icmp_ne (pc := 31) B 38 dX8_isTwo_31 (by decide) (fun h31 => ?_) (fun h31 => ?_)
      · skip
        refine r_iconst (pc := 38) (x := 0) B dX8_isTwo_38 (by decide) ?_
        exact r_zret (pc := 39) B R (by first | decide | exact bI_01 _) dX8_isTwo_39 ⟨by first | (rw [← bI_f (p := (wL t 2 ∧ bF σ L t 0 = a ∧ bF σ L t 1 = b)) (fun q => bI_0.mp h5 q.1)]) | (rw [← bI_f (p := (wL t 2 ∧ bF σ L t 0 = a ∧ bF σ L t 1 = b)) (fun q => h17 q.2.1)]) | (rw [← bI_f (p := (wL t 2 ∧ bF σ L t 0 = a ∧ bF σ L t 1 = b)) (fun q => h31 q.2.2)]) | (rw [← bI_t (p := (wL t 2 ∧ bF σ L t 0 = a ∧ bF σ L t 1 = b)) ⟨bI_n.mp h5, h17, h31⟩]), rfl⟩
      · skip
        refine r_iconst (pc := 34) (x := 1) B dX8_isTwo_34 (by decide) ?_
        refine r_goto (pc := 35) B 39 dX8_isTwo_35 (by decide) ?_
        exact r_zret (pc := 39) B R (by first | decide | exact bI_01 _) dX8_isTwo_39 ⟨by first | (rw [← bI_f (p := (wL t 2 ∧ bF σ L t 0 = a ∧ bF σ L t 1 = b)) (fun q => bI_0.mp h5 q.1)]) | (rw [← bI_f (p := (wL t 2 ∧ bF σ L t 0 = a ∧ bF σ L t 1 = b)) (fun q => h17 q.2.1)]) | (rw [← bI_f (p := (wL t 2 ∧ bF σ L t 0 = a ∧ bF σ L t 1 = b)) (fun q => h31 q.2.2)]) | (rw [← bI_t (p := (wL t 2 ∧ bF σ L t 0 = a ∧ bF σ L t 1 = b)) ⟨bI_n.mp h5, h17, h31⟩]), rfl⟩
set_option maxHeartbeats 4000000 in
set_option maxRecDepth 20000 in
theorem e_isNumber (l : Launch) (G : GG) (σ : Sg) {L : Nat} {t : TS} (h : tS σ L t) {g : Nat} {x y : Int32} (hx : x = 0) (hy : y = nI g) (hg : g < 100000) (hv : t.2.2.2 < 200000) : CtI l G mX8_isNumber 1 shT [.ref (ad G 65), .int x, .int y] σ (bI (okN t g)) (if okN t g then σ else st2 σ 65 20 (nI t.1)) := by
  subst hx hy
  obtain ⟨hL8, hL, h16, h17, h18, h19, hle, hlL⟩ := h
  refine ct_intro (by decide) (Nat.le_of_ble_eq_true rfl) (fun X B R => ?_)
  show V X G shT σ [some (.ref (ad G 65)), some (.int 0), some (.int (nI g))] [] 0
  refine r_aload_n (pc := 0) B dX8_isNumber_0 rfl ?_
  refine r_geti (pc := 1) B FX8_227 rfl rfl dX8_isNumber_1 ?_
  rw [h16]
  refine r_iconst (pc := 4) (x := 2) B dX8_isNumber_4 (by decide) ?_
  refine r_icmp_ne (pc := 5) B 23 dX8_isNumber_5 (by decide) (fun h5 => ?_) (fun h5 => ?_)
  · skip
    have hno : ¬ okN t g := fun z => h5 z.1
    refine r_aload_n (pc := 23) B dX8_isNumber_23 rfl ?_
    refine r_cVi0 (pc := 24) B KX8_243 (e_fails l G _) rfl rfl (by decide) (Nat.le_of_ble_eq_true rfl) dX8_isNumber_24 ?_
    refine r_bz_if_eq (pc := 27) B dX8_isNumber_27 dX8_isNumber_30 dX8_isNumber_31 dX8_isNumber_34 ?_
    exact r_zret (pc := 35) B R (by first | decide | exact bI_01 _) dX8_isNumber_35 (by first | exact ⟨by rw [← bI_t hok], by rw [if_pos hok]⟩ | exact ⟨by rw [← bI_f hno]; rfl, by rw [if_neg hno, h17]⟩)
  · skip
    refine r_aload_n (pc := 8) B dX8_isNumber_8 rfl ?_
    refine r_geti (pc := 9) B FX8_230 rfl rfl dX8_isNumber_9 ?_
    rw [h19]
    refine r_i2l (pc := 12) B dX8_isNumber_12 ?_
    refine r_iload_n (pc := 13) B dX8_isNumber_13 rfl ?_
    refine r_i2l (pc := 14) B dX8_isNumber_14 ?_
    refine r_iload_n (pc := 15) B dX8_isNumber_15 rfl ?_
    refine r_i2l (pc := 16) B dX8_isNumber_16 ?_
    refine r_cSi3 (pc := 17) B KX8_49 (e_isIn l G _ _ (v := (nI t.2.2.2)) (a := 0) (b := (nI g)) rfl rfl rfl) (by decide) (Nat.le_of_ble_eq_true rfl) dX8_isNumber_17 ?_
    refine r_if_ne (pc := 20) B 30 dX8_isNumber_20 (by decide) (fun h20 => ?_) (fun h20 => ?_)
    · skip
      have hok : okN t g := ⟨h5, by have q := (bI_n.mp h20).2; rcases Nat.lt_or_ge g t.2.2.2 with z | z; exact absurd ((nI_ltI (by omega) (by omega)).mpr z) q; exact z⟩
      refine r_iconst (pc := 30) (x := 1) B dX8_isNumber_30 (by decide) ?_
      refine r_goto (pc := 31) B 35 dX8_isNumber_31 (by decide) ?_
      exact r_zret (pc := 35) B R (by first | decide | exact bI_01 _) dX8_isNumber_35 (by first | exact ⟨by rw [← bI_t hok], by rw [if_pos hok]⟩ | exact ⟨by rw [← bI_f hno]; rfl, by rw [if_neg hno, h17]⟩)
    · skip
      have hno : ¬ okN t g := fun z => bI_0.mp h20 ⟨nI_pos (by omega), fun q => by have := (nI_ltI (by omega) (by omega)).mp q; omega⟩
      refine r_aload_n (pc := 23) B dX8_isNumber_23 rfl ?_
      refine r_cVi0 (pc := 24) B KX8_243 (e_fails l G _) rfl rfl (by decide) (Nat.le_of_ble_eq_true rfl) dX8_isNumber_24 ?_
      refine r_bz_if_eq (pc := 27) B dX8_isNumber_27 dX8_isNumber_30 dX8_isNumber_31 dX8_isNumber_34 ?_
      exact r_zret (pc := 35) B R (by first | decide | exact bI_01 _) dX8_isNumber_35 (by first | exact ⟨by rw [← bI_t hok], by rw [if_pos hok]⟩ | exact ⟨by rw [← bI_f hno]; rfl, by rw [if_neg hno, h17]⟩)

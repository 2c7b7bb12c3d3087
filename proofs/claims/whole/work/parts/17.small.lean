/-! arrays filled, bits counted -/
def fillS (σ : Sg) (k n : Nat) (v : Int32) : Sg := fun a b => if a = k ∧ b < n then v else σ a b
def bcF (x : Int32) : Int32 :=
  let a := x - ((x.toUInt32 >>> ((1 : Int32).toUInt32 &&& Int32.toUInt32 31)).toInt32 &&& 1431655765)
  let b := (a &&& 858993459) + ((a.toUInt32 >>> ((2 : Int32).toUInt32 &&& Int32.toUInt32 31)).toInt32 &&& 858993459)
  let c := (b + (b.toUInt32 >>> ((4 : Int32).toUInt32 &&& Int32.toUInt32 31)).toInt32) &&& 252645135
  let d := c + (c.toUInt32 >>> ((8 : Int32).toUInt32 &&& Int32.toUInt32 31)).toInt32
  let e := d + (d.toUInt32 >>> ((16 : Int32).toUInt32 &&& Int32.toUInt32 31)).toInt32
  e &&& 63

set_option maxHeartbeats 4000000 in
set_option maxRecDepth 20000 in
theorem c_fill (l : Launch) (G : GG) (T : List Sh) (σ : Sg) {k N : Nat} (hT : T[k]? = some (.inr (.inl N))) (hN : N ≤ 1000) (v : Int32) : CtV l G mJ7_fill_53178 0 T [.ref (ad G k), .int v] σ (fillS σ k N v) := by
  refine ct_intro (by decide) (Nat.le_of_ble_eq_true rfl) (fun X B R => ?_)
  show V X G T σ [some (.ref (ad G k)), some (.int v), none, none] [] 0
  refine r_iconst (pc := 0) (x := 0) B dJ7_fill_53178_0 (by decide) ?_
  refine r_istore_2 (pc := 1) B dJ7_fill_53178_1 (by decide) rfl ?_
  refine r_aload_n (pc := 2) B dJ7_fill_53178_2 rfl ?_
  refine r_alen (pc := 3) B hT dJ7_fill_53178_3 ?_
  refine r_istore_3 (pc := 4) B dJ7_fill_53178_4 (by decide) rfl ?_
  have hL5 : ∀ (n i : Nat), i ≤ N → N + 1 ≤ i + n → V X G T (fillS σ k i v) [some (.ref (ad G k)), some (.int v), some (.int (nI i)), some (.int (nI N))] [] 5 := by
    intro n
    induction n with
    | zero => intro i h1 h2; omega
    | succ n ih =>
      intro i hi hn
      refine r_iload_n (pc := 5) B dJ7_fill_53178_5 rfl ?_
      refine r_iload_n (pc := 6) B dJ7_fill_53178_6 rfl ?_
      refine r_icmp_ge (pc := 7) B 20 dJ7_fill_53178_7 (by decide) (fun h7 => ?_) (fun h7 => ?_)
      · skip
        have eN : i = N := by have := nI_ge_of (by omega) (by omega) h7; omega
        subst eN
        exact r_vret (pc := 20) B R dJ7_fill_53178_20 ⟨rfl, rfl⟩
      · skip
        have hiN : i < N := nI_lt_of (by omega) (by omega) h7
        refine r_aload_n (pc := 10) B dJ7_fill_53178_10 rfl ?_
        refine r_iload_n (pc := 11) B dJ7_fill_53178_11 rfl ?_
        refine r_iload_n (pc := 12) B dJ7_fill_53178_12 rfl ?_
        refine r_iast (pc := 13) B hT (ix_nI hiN (by omega)) dJ7_fill_53178_13 ?_
        refine r_iinc_2 (pc := 14) (y := _ + 1) B dJ7_fill_53178_14 rfl (by decide) rfl ?_
        refine r_goto (pc := 17) B 5 dJ7_fill_53178_17 (by decide) ?_
        rw [nI_1]
        rw [show st2 (fillS σ k i v) k i v = fillS σ k (i + 1) v by clear ih B R; funext a b; simp only [st2, fillS]; grind]
        exact ih (i + 1) hiN (by omega)
  rw [show σ = fillS σ k 0 v by funext a b; simp [fillS]]
  exact hL5 (N + 1) 0 (by omega) (by omega)
set_option maxHeartbeats 4000000 in
set_option maxRecDepth 20000 in
theorem c_bitCount (l : Launch) (G : GG) (T : List Sh) (σ : Sg) (x : Int32) : CtI l G mJ6_bitCount_0f7a4 0 T [.int x] σ (bcF x) σ := by
  refine ct_intro (by decide) (Nat.le_of_ble_eq_true rfl) (fun X B R => ?_)
  show V X G T σ [some (.int x)] [] 0
  refine r_iload_n (pc := 0) B dJ6_bitCount_0f7a4_0 rfl ?_
  refine r_iload_n (pc := 1) B dJ6_bitCount_0f7a4_1 rfl ?_
  refine r_iconst (pc := 2) (x := 1) B dJ6_bitCount_0f7a4_2 (by decide) ?_
  refine r_iushr (pc := 3) B dJ6_bitCount_0f7a4_3 ?_
  refine r_ldc_w (pc := 4) B q524 dJ6_bitCount_0f7a4_4 ?_
  refine r_iand (pc := 7) B dJ6_bitCount_0f7a4_7 ?_
  refine r_isub (pc := 8) B dJ6_bitCount_0f7a4_8 ?_
  refine r_istore_0 (pc := 9) B dJ6_bitCount_0f7a4_9 (by decide) ?_
  refine r_iload_n (pc := 10) B dJ6_bitCount_0f7a4_10 rfl ?_
  refine r_ldc_w (pc := 11) B q525 dJ6_bitCount_0f7a4_11 ?_
  refine r_iand (pc := 14) B dJ6_bitCount_0f7a4_14 ?_
  refine r_iload_n (pc := 15) B dJ6_bitCount_0f7a4_15 rfl ?_
  refine r_iconst (pc := 16) (x := 2) B dJ6_bitCount_0f7a4_16 (by decide) ?_
  refine r_iushr (pc := 17) B dJ6_bitCount_0f7a4_17 ?_
  refine r_ldc_w (pc := 18) B q525 dJ6_bitCount_0f7a4_18 ?_
  refine r_iand (pc := 21) B dJ6_bitCount_0f7a4_21 ?_
  refine r_iadd (pc := 22) B dJ6_bitCount_0f7a4_22 ?_
  refine r_istore_0 (pc := 23) B dJ6_bitCount_0f7a4_23 (by decide) ?_
  refine r_iload_n (pc := 24) B dJ6_bitCount_0f7a4_24 rfl ?_
  refine r_iload_n (pc := 25) B dJ6_bitCount_0f7a4_25 rfl ?_
  refine r_iconst (pc := 26) (x := 4) B dJ6_bitCount_0f7a4_26 (by decide) ?_
  refine r_iushr (pc := 27) B dJ6_bitCount_0f7a4_27 ?_
  refine r_iadd (pc := 28) B dJ6_bitCount_0f7a4_28 ?_
  refine r_ldc_w (pc := 29) B q526 dJ6_bitCount_0f7a4_29 ?_
  refine r_iand (pc := 32) B dJ6_bitCount_0f7a4_32 ?_
  refine r_istore_0 (pc := 33) B dJ6_bitCount_0f7a4_33 (by decide) ?_
  refine r_iload_n (pc := 34) B dJ6_bitCount_0f7a4_34 rfl ?_
  refine r_iload_n (pc := 35) B dJ6_bitCount_0f7a4_35 rfl ?_
  refine r_bipush (pc := 36) (x := 8) B dJ6_bitCount_0f7a4_36 (by decide) ?_
  refine r_iushr (pc := 38) B dJ6_bitCount_0f7a4_38 ?_
  refine r_iadd (pc := 39) B dJ6_bitCount_0f7a4_39 ?_
  refine r_istore_0 (pc := 40) B dJ6_bitCount_0f7a4_40 (by decide) ?_
  refine r_iload_n (pc := 41) B dJ6_bitCount_0f7a4_41 rfl ?_
  refine r_iload_n (pc := 42) B dJ6_bitCount_0f7a4_42 rfl ?_
  refine r_bipush (pc := 43) (x := 16) B dJ6_bitCount_0f7a4_43 (by decide) ?_
  refine r_iushr (pc := 45) B dJ6_bitCount_0f7a4_45 ?_
  refine r_iadd (pc := 46) B dJ6_bitCount_0f7a4_46 ?_
  refine r_istore_0 (pc := 47) B dJ6_bitCount_0f7a4_47 (by decide) ?_
  refine r_iload_n (pc := 48) B dJ6_bitCount_0f7a4_48 rfl ?_
  refine r_bipush (pc := 49) (x := 63) B dJ6_bitCount_0f7a4_49 (by decide) ?_
  refine r_iand (pc := 51) B dJ6_bitCount_0f7a4_51 ?_
  exact r_iret (pc := 52) B R dJ6_bitCount_0f7a4_52 ⟨rfl, rfl⟩
set_option maxHeartbeats 4000000 in
set_option maxRecDepth 20000 in
theorem c_isKind (l : Launch) (G : GG) (T : List Sh) (σ : Sg) (x : Int32) : CtI l G mX7_isKind 0 T [.int x] σ (bI (¬ x < 0 ∧ ¬ 7 ≤ x)) σ := by
  refine ct_intro (by decide) (Nat.le_of_ble_eq_true rfl) (fun X B R => ?_)
  show V X G T σ [some (.int x)] [] 0
  refine r_iload_n (pc := 0) B dX7_isKind_0 rfl ?_
  refine r_if_lt (pc := 1) B 14 dX7_isKind_1 (by decide) (fun h1 => ?_) (fun h1 => ?_)
  · skip
    refine r_iconst (pc := 14) (x := 0) B dX7_isKind_14 (by decide) ?_
    exact r_zret (pc := 15) B R (by first | decide | exact bI_01 _) dX7_isKind_15 ⟨by clear B R X; grind [bI], rfl⟩
  · skip
    refine r_iload_n (pc := 4) B dX7_isKind_4 rfl ?_
    refine r_bipush (pc := 5) (x := 7) B dX7_isKind_5 (by decide) ?_
    refine r_bz_icmp_ge (pc := 7) B dX7_isKind_7 dX7_isKind_10 dX7_isKind_11 dX7_isKind_14 ?_
    exact r_zret (pc := 15) B R (by first | decide | exact bI_01 _) dX7_isKind_15 ⟨by clear B R X; grind [bI], rfl⟩
set_option maxHeartbeats 4000000 in
set_option maxRecDepth 20000 in
theorem c_isSpot (l : Launch) (G : GG) (T : List Sh) (σ : Sg) (x : Int32) : CtI l G mX7_isSpot 0 T [.int x] σ (bI (¬ x < 0 ∧ ¬ 10 ≤ x)) σ := by
  refine ct_intro (by decide) (Nat.le_of_ble_eq_true rfl) (fun X B R => ?_)
  show V X G T σ [some (.int x)] [] 0
  refine r_iload_n (pc := 0) B dX7_isSpot_0 rfl ?_
  refine r_if_lt (pc := 1) B 14 dX7_isSpot_1 (by decide) (fun h1 => ?_) (fun h1 => ?_)
  · skip
    refine r_iconst (pc := 14) (x := 0) B dX7_isSpot_14 (by decide) ?_
    exact r_zret (pc := 15) B R (by first | decide | exact bI_01 _) dX7_isSpot_15 ⟨by clear B R X; grind [bI], rfl⟩
  · skip
    refine r_iload_n (pc := 4) B dX7_isSpot_4 rfl ?_
    refine r_bipush (pc := 5) (x := 10) B dX7_isSpot_5 (by decide) ?_
    refine r_bz_icmp_ge (pc := 7) B dX7_isSpot_7 dX7_isSpot_10 dX7_isSpot_11 dX7_isSpot_14 ?_
    exact r_zret (pc := 15) B R (by first | decide | exact bI_01 _) dX7_isSpot_15 ⟨by clear B R X; grind [bI], rfl⟩
set_option maxHeartbeats 4000000 in
set_option maxRecDepth 20000 in
theorem c_isSheet (l : Launch) (G : GG) (T : List Sh) (σ : Sg) (x : Int32) : CtI l G mX7_isSheet 0 T [.int x] σ (bI (¬ x < 0 ∧ ¬ 4 ≤ x)) σ := by
  refine ct_intro (by decide) (Nat.le_of_ble_eq_true rfl) (fun X B R => ?_)
  show V X G T σ [some (.int x)] [] 0
  refine r_iload_n (pc := 0) B dX7_isSheet_0 rfl ?_
  refine r_if_lt (pc := 1) B 13 dX7_isSheet_1 (by decide) (fun h1 => ?_) (fun h1 => ?_)
  · skip
    refine r_iconst (pc := 13) (x := 0) B dX7_isSheet_13 (by decide) ?_
    exact r_zret (pc := 14) B R (by first | decide | exact bI_01 _) dX7_isSheet_14 ⟨by clear B R X; grind [bI], rfl⟩
  · skip
    refine r_iload_n (pc := 4) B dX7_isSheet_4 rfl ?_
    refine r_iconst (pc := 5) (x := 4) B dX7_isSheet_5 (by decide) ?_
    refine r_bz_icmp_ge (pc := 6) B dX7_isSheet_6 dX7_isSheet_9 dX7_isSheet_10 dX7_isSheet_13 ?_
    exact r_zret (pc := 14) B R (by first | decide | exact bI_01 _) dX7_isSheet_14 ⟨by clear B R X; grind [bI], rfl⟩
abbrev umbP (σ : Sg) (x : Int32) : Prop := ¬ x < 0 ∧ ¬ σ 1 2 ≤ x
/-- a finding is counted -/
def fnd (σ : Sg) (j : Nat) : Sg := st2 σ 56 j (σ 56 j + 1)
def kA (j : Nat) : Int32 := ([-1, 0, 0, 2, 3, 0, 1] : List Int32).getD j 0
def unN : Nat → Int32 → Int32 → Prop
  | 0, _, _ => False
  | n + 1, k, a => (¬ k < 0 ∧ ¬ 7 ≤ k) ∧ (k = a ∨ unN n (kA k.toNatClampNeg) a)

set_option maxHeartbeats 4000000 in
set_option maxRecDepth 20000 in
theorem c_isUmbrella (l : Launch) (G : GG) (σ : Sg) (x : Int32) : CtI l G mX7_isUmbrella 0 shT [.ref (ad G 0), .int x] σ (bI (umbP σ x)) σ := by
  refine ct_intro (by decide) (Nat.le_of_ble_eq_true rfl) (fun X B R => ?_)
  show V X G shT σ [some (.ref (ad G 0)), some (.int x)] [] 0
  refine r_iload_n (pc := 0) B dX7_isUmbrella_0 rfl ?_
  refine r_if_lt (pc := 1) B 19 dX7_isUmbrella_1 (by decide) (fun h1 => ?_) (fun h1 => ?_)
  · skip
    refine r_iconst (pc := 19) (x := 0) B dX7_isUmbrella_19 (by decide) ?_
    exact r_zret (pc := 20) B R (by first | decide | exact bI_01 _) dX7_isUmbrella_20 ⟨by clear B R X; grind [bI], rfl⟩
  · skip
    refine r_iload_n (pc := 4) B dX7_isUmbrella_4 rfl ?_
    refine r_aload_n (pc := 5) B dX7_isUmbrella_5 rfl ?_
    refine r_getr (pc := 6) B FX7_10 rfl rfl dX7_isUmbrella_6 ?_
    refine r_geti (pc := 9) B FX7_175 rfl rfl dX7_isUmbrella_9 ?_
    refine r_bz_icmp_ge (pc := 12) B dX7_isUmbrella_12 dX7_isUmbrella_15 dX7_isUmbrella_16 dX7_isUmbrella_19 ?_
    exact r_zret (pc := 20) B R (by first | decide | exact bI_01 _) dX7_isUmbrella_20 ⟨by clear B R X; grind [bI], rfl⟩
set_option maxHeartbeats 4000000 in
set_option maxRecDepth 20000 in
theorem c_finding (l : Launch) (G : GG) (σ : Sg) {x : Int32} (j : Nat) (hx : ix x 7 j) : CtI l G mX7_finding 0 shT [.ref (ad G 0), .int x] σ (-1000001 - x) (fnd σ j) := by
  refine ct_intro (by decide) (Nat.le_of_ble_eq_true rfl) (fun X B R => ?_)
  show V X G shT σ [some (.ref (ad G 0)), some (.int x)] [] 0
  refine r_aload_n (pc := 0) B dX7_finding_0 rfl ?_
  refine r_getr (pc := 1) B FX7_55 rfl rfl dX7_finding_1 ?_
  refine r_iload_n (pc := 4) B dX7_finding_4 rfl ?_
  refine r_dup2 (pc := 5) B rfl rfl dX7_finding_5 ?_
  refine r_iald (pc := 6) B rfl hx dX7_finding_6 ?_
  refine r_iconst (pc := 7) (x := 1) B dX7_finding_7 (by decide) ?_
  refine r_iadd (pc := 8) B dX7_finding_8 ?_
  refine r_iast (pc := 9) B rfl hx dX7_finding_9 ?_
  refine r_ldc_w (pc := 10) B q255 dX7_finding_10 ?_
  refine r_iload_n (pc := 13) B dX7_finding_13 rfl ?_
  refine r_isub (pc := 14) B dX7_finding_14 ?_
  exact r_iret (pc := 15) B R dX7_finding_15 ⟨rfl, rfl⟩
set_option maxHeartbeats 4000000 in
set_option maxRecDepth 20000 in
theorem c_isUnder (l : Launch) (G : GG) (T : List Sh) (σ : Sg) (k a : Int32) (dd : Decidable (unN 7 k a)) : CtI l G mX7_isUnder 1 T [.int k, .int a] σ (bI (unN 7 k a)) σ := by
  refine ct_intro (by decide) (Nat.le_of_ble_eq_true rfl) (fun X B R => ?_)
  show V X G T σ [some (.int k), some (.int a), none, none] [] 0
  refine r_iload_n (pc := 0) B dX7_isUnder_0 rfl ?_
  refine r_istore_2 (pc := 1) B dX7_isUnder_1 (by decide) rfl ?_
  refine r_iconst (pc := 2) (x := 0) B dX7_isUnder_2 (by decide) ?_
  refine r_istore_3 (pc := 3) B dX7_isUnder_3 (by decide) rfl ?_
  have hL4 : ∀ (n i : Nat) (x : Int32), i + n = 7 → (unN 7 k a ↔ unN n x a) → V X G T σ [some (.int k), some (.int a), some (.int x), some (.int (nI i))] [] 4 := by
    intro n
    induction n with
    | zero =>
      intro i x hi hq
      have ei : i = 7 := by omega
      subst ei
      refine r_iload_n (pc := 4) B dX7_isUnder_4 rfl ?_
      refine r_bipush (pc := 5) (x := 7) B dX7_isUnder_5 (by decide) ?_
      refine r_icmp_ge (pc := 7) B 36 dX7_isUnder_7 (by decide) (fun h7 => ?_) (fun h7 => ?_)
      · skip
        refine r_iconst (pc := 36) (x := 0) B dX7_isUnder_36 (by decide) ?_
        exact r_zret (pc := 37) B R (by first | decide | exact bI_01 _) dX7_isUnder_37 ⟨by rw [← bI_f (p := unN 7 k a) (fun z => hq.mp z)], rfl⟩
      · skip
        exact absurd h7 (by decide)
    | succ n ih =>
      intro i x hi hq
      refine r_iload_n (pc := 4) B dX7_isUnder_4 rfl ?_
      refine r_bipush (pc := 5) (x := 7) B dX7_isUnder_5 (by decide) ?_
      refine r_icmp_ge (pc := 7) B 36 dX7_isUnder_7 (by decide) (fun h7 => ?_) (fun h7 => ?_)
      · skip
        exact absurd (nI_ge_of (n := 7) (by omega) (by omega) h7) (by omega)
      · skip
        refine r_iload_n (pc := 10) B dX7_isUnder_10 rfl ?_
        refine r_cSi1 (pc := 11) B KX7_101 (c_isKind l G _ _ _) (by decide) (Nat.le_of_ble_eq_true rfl) dX7_isUnder_11 ?_
        refine r_if_eq (pc := 14) B 36 dX7_isUnder_14 (by decide) (fun h14 => ?_) (fun h14 => ?_)
        · skip
          refine r_iconst (pc := 36) (x := 0) B dX7_isUnder_36 (by decide) ?_
          exact r_zret (pc := 37) B R (by first | decide | exact bI_01 _) dX7_isUnder_37 ⟨by rw [← bI_f (p := unN 7 k a) (fun z => bI_0.mp h14 (hq.mp z).1)], rfl⟩
        · skip
          have hk := bI_n.mp h14
          obtain ⟨j, hj, hjx⟩ : ∃ j, j < 7 ∧ x = nI j := by
            obtain ⟨j, h2, rfl⟩ := nI_of hk.1
            exact ⟨j, by rcases Nat.lt_or_ge j 7 with q | q <;> first | exact q | exact absurd ((nI_leI (a := 7) (by omega) h2).mpr q) hk.2, rfl⟩
          refine r_iload_n (pc := 17) B dX7_isUnder_17 rfl ?_
          refine r_iload_n (pc := 18) B dX7_isUnder_18 rfl ?_
          refine r_icmp_ne (pc := 19) B 24 dX7_isUnder_19 (by decide) (fun h19 => ?_) (fun h19 => ?_)
          · skip
            refine r_gk (pc := 24) B q694 dX7_isUnder_24 ?_
            refine r_iload_n (pc := 27) B dX7_isUnder_27 rfl ?_
            refine r_tk (pc := 28) (v := kA j) B j (ix_eq hjx hj (by decide)) rfl dX7_isUnder_28 ?_
            refine r_istore_2 (pc := 29) B dX7_isUnder_29 (by decide) rfl ?_
            refine r_iinc_3 (pc := 30) (y := _ + 1) B dX7_isUnder_30 rfl (by decide) rfl ?_
            refine r_goto (pc := 33) B 4 dX7_isUnder_33 (by decide) ?_
            rw [nI_1]
            refine ih (i + 1) _ (by omega) ?_
            rw [hq, unN, hjx, show (nI j).toNatClampNeg = j from nI_clamp (by omega)]
            exact ⟨fun z => z.2.elim (fun z => absurd (hjx.trans z) h19) id, fun z => ⟨⟨nI_pos (by omega), fun q => by have := (nI_leI (a := 7) (by omega) (by omega)).mp q; omega⟩, Or.inr z⟩⟩
          · skip
            refine r_iconst (pc := 22) (x := 1) B dX7_isUnder_22 (by decide) ?_
            exact r_zret (pc := 23) B R (by first | decide | exact bI_01 _) dX7_isUnder_23 ⟨by rw [← bI_t (p := unN 7 k a) (hq.mpr ⟨hk, Or.inl h19⟩)], rfl⟩
  exact hL4 7 0 k (by omega) Iff.rfl
/-- the walk begins with umbrella u -/
def swk (σ : Sg) (u : Nat) : Sg := wrU (cpSt σ 47 2) 51 (σ (8 + u))
theorem W1 : isW 1 := Or.inl rfl
theorem S2 : isS 2 := Or.inl rfl
theorem U8 {u : Nat} (h : u < 8) : isU (8 + u) := Or.inl (by omega)
theorem el_1 {u : Nat} (h : u < 8) : ([some (1 + 7), some (1 + 8), some (1 + 9), some (1 + 10), some (1 + 11), some (1 + 12), some (1 + 13), some (1 + 14)] : List (Option Nat))[u]? = some (some (8 + u)) := el_u (W := 1) h
theorem umb_nI {σ : Sg} {x : Int32} {N : Nat} (hN8 : N ≤ 8) (hN : σ 1 2 = nI N) (h : umbP σ x) : ∃ u, u < N ∧ x = nI u := by
  obtain ⟨j, h2, rfl⟩ := nI_of h.1
  refine ⟨j, ?_, rfl⟩
  rcases Nat.lt_or_ge j N with q | q
  · exact q
  · exact absurd (by rw [hN]; exact (nI_leI (by omega) h2).mpr q) h.2
theorem nI_umb {σ : Sg} {u N : Nat} (hN8 : N ≤ 8) (hN : σ 1 2 = nI N) (h : u < N) : umbP σ (nI u) := ⟨nI_pos (by omega), fun q => by rw [hN] at q; have := (nI_leI (by omega) (by omega)).mp q; omega⟩

set_option maxHeartbeats 4000000 in
set_option maxRecDepth 20000 in
theorem c_startWalk (l : Launch) (G : GG) (σ : Sg) {u N : Nat} (hN8 : N ≤ 8) (hN : σ 1 2 = nI N) (hu : u < N) : CtV l G mX7_startWalk 3 shT [.ref (ad G 0), .int (nI u)] σ (swk σ u) := by
  refine ct_intro (by decide) (Nat.le_of_ble_eq_true rfl) (fun X B R => ?_)
  show V X G shT σ [some (.ref (ad G 0)), some (.int (nI u))] [] 0
  refine r_aload_n (pc := 0) B dX7_startWalk_0 rfl ?_
  refine r_iload_n (pc := 1) B dX7_startWalk_1 rfl ?_
  refine r_cVi1 (pc := 2) B KX7_111 (c_isUmbrella l G _ _) rfl rfl (by decide) (Nat.le_of_ble_eq_true rfl) dX7_startWalk_2 ?_
  refine r_if_eq (pc := 5) B 31 dX7_startWalk_5 (by decide) (fun h5 => ?_) (fun h5 => ?_)
  · skip
    exact absurd (nI_umb hN8 hN hu) (bI_0.mp h5)
  · skip
    refine r_aload_n (pc := 8) B dX7_startWalk_8 rfl ?_
    refine r_getr (pc := 9) B FX7_29 rfl rfl dX7_startWalk_9 ?_
    refine r_aload_n (pc := 12) B dX7_startWalk_12 rfl ?_
    refine r_getr (pc := 13) B FX7_10 rfl rfl dX7_startWalk_13 ?_
    refine r_getr (pc := 16) B FX7_68 rfl rfl dX7_startWalk_16 ?_
    refine r_aload_n (pc := 19) B dX7_startWalk_19 rfl ?_
    refine r_getr (pc := 20) B FX7_10 rfl rfl dX7_startWalk_20 ?_
    refine r_getr (pc := 23) B FX7_114 rfl rfl dX7_startWalk_23 ?_
    refine r_iload_n (pc := 26) B dX7_startWalk_26 rfl ?_
    refine r_aald (pc := 27) B rfl rfl (ix_nI (N := 8) (by omega) (by decide)) (el_1 (by omega)) dX7_startWalk_27 ?_
    refine r_cVv2 (pc := 28) B KX7_264 (c_start l G _ S2 (U8 (by omega)) (by decide) (by omega)) rfl rfl (by decide) (Nat.le_of_ble_eq_true rfl) dX7_startWalk_28 ?_
    exact r_vret (pc := 31) B R dX7_startWalk_31 ⟨rfl, rfl⟩
theorem swk_wk (σ : Sg) (u : Nat) (hu : u < 8) : isWk (swk σ u) (swk σ u) (σ 2 5, σ (8 + u)) ∧ (∀ k, k < 47 ∨ 52 ≤ k → swk σ u k = σ k) := by
  refine ⟨⟨?_, fun i hi => ?_, fun _ _ _ => rfl, fun _ _ => rfl⟩, fun k hk => ?_⟩
  · simp [swk, wrU, cpSt]
  · simp [swk, wrU, hi]
  · funext i; simp only [swk, wrU, cpSt]; grind
/-- the walk's street is the world's -/
theorem swk_st (σ : Sg) (u : Nat) : (∀ i, i < 16 → swk σ u 48 i = σ 3 i) ∧ (∀ i, i < 16 → swk σ u 49 i = σ 4 i) ∧ (∀ i, i < 16 → swk σ u 50 i = σ 5 i) ∧ swk σ u 47 3 = σ 2 3 ∧ swk σ u 47 4 = σ 2 4 := by
  refine ⟨fun i hi => ?_, fun i hi => ?_, fun i hi => ?_, ?_, ?_⟩
  · simp [swk, wrU, cpSt, hi]
  · simp [swk, wrU, cpSt, hi]
  · simp [swk, wrU, cpSt, hi]
  · simp [swk, wrU, cpSt]
  · simp [swk, wrU, cpSt]

set_option maxHeartbeats 4000000 in
set_option maxRecDepth 20000 in
theorem c_isMissing (l : Launch) (G : GG) (σ : Sg) {H : Nat} (hH : isH H) : CtI l G mX1_isMissing 0 shT [.ref (ad G H)] σ (bI (σ H 1 = 0)) σ := by
  refine ct_intro (by decide) (Nat.le_of_ble_eq_true rfl) (fun X B R => ?_)
  show V X G shT σ [some (.ref (ad G H))] [] 0
  refine r_aload_n (pc := 0) B dX1_isMissing_0 rfl ?_
  refine r_geti (pc := 1) B FX1_15 (shH hH) rfl dX1_isMissing_1 ?_
  refine r_bz_if_ne (pc := 4) B dX1_isMissing_4 dX1_isMissing_7 dX1_isMissing_8 dX1_isMissing_11 ?_
  exact r_zret (pc := 12) B R (by first | decide | exact bI_01 _) dX1_isMissing_12 ⟨rfl, rfl⟩
set_option maxHeartbeats 4000000 in
set_option maxRecDepth 20000 in
theorem c_clear (l : Launch) (G : GG) (σ : Sg) {H : Nat} (hH : isH H) (bt n : Int32) : CtV l G mX1_clear 1 shT [.ref (ad G H), .int bt, .int n] σ (st2 (st2 (fillS σ (H + 1) 40 0) H 1 bt) H 2 (if bt = 0 then 0 else n)) := by
  refine ct_intro (by decide) (Nat.le_of_ble_eq_true rfl) (fun X B R => ?_)
  show V X G shT σ [some (.ref (ad G H)), some (.int bt), some (.int n)] [] 0
  refine r_aload_n (pc := 0) B dX1_clear_0 rfl ?_
  refine r_getr (pc := 1) B FX1_9 (shH hH) rfl dX1_clear_1 ?_
  refine r_iconst (pc := 4) (x := 0) B dX1_clear_4 (by decide) ?_
  refine r_cSv2 (pc := 5) B KX1_22 (c_fill l G _ _ (shH1 hH) (by omega) _) (by decide) (Nat.le_of_ble_eq_true rfl) dX1_clear_5 ?_
  refine r_aload_n (pc := 8) B dX1_clear_8 rfl ?_
  refine r_iload_n (pc := 9) B dX1_clear_9 rfl ?_
  refine r_puti (pc := 10) B PX1_15 (shH hH) rfl dX1_clear_10 ?_
  refine r_aload_n (pc := 13) B dX1_clear_13 rfl ?_
  refine r_iload_n (pc := 14) B dX1_clear_14 rfl ?_
  refine r_if_ne (pc := 15) B 22 dX1_clear_15 (by decide) (fun h15 => ?_) (fun h15 => ?_)
  · skip
    refine r_iload_n (pc := 22) B dX1_clear_22 rfl ?_
    refine r_puti (pc := 23) B PX1_19 (shH hH) rfl dX1_clear_23 ?_
    exact r_vret (pc := 26) B R dX1_clear_26 ⟨rfl, by simp [h15]⟩
  · skip
    refine r_iconst (pc := 18) (x := 0) B dX1_clear_18 (by decide) ?_
    refine r_goto (pc := 19) B 23 dX1_clear_19 (by decide) ?_
    refine r_puti (pc := 23) B PX1_19 (shH hH) rfl dX1_clear_23 ?_
    exact r_vret (pc := 26) B R dX1_clear_26 ⟨rfl, by simp [h15]⟩
abbrev hasP (z f n : Int32) : Prop := ¬ f < 0 ∧ ¬ n < 0 ∧ ¬ z < n ∧ ¬ z - n < f
def putF (bt v : Int32) : Int32 := if bt = 8 then v.toInt8.toInt32 else if bt = 16 then v.toInt16.toInt32 else v

set_option maxHeartbeats 4000000 in
set_option maxRecDepth 20000 in
theorem c_has (l : Launch) (G : GG) (σ : Sg) {H : Nat} (hH : isH H) (f n : Int32) : CtI l G mX1_has 0 shT [.ref (ad G H), .int f, .int n] σ (bI (hasP (σ H 2) f n)) σ := by
  refine ct_intro (by decide) (Nat.le_of_ble_eq_true rfl) (fun X B R => ?_)
  show V X G shT σ [some (.ref (ad G H)), some (.int f), some (.int n)] [] 0
  refine r_iload_n (pc := 0) B dX1_has_0 rfl ?_
  refine r_if_lt (pc := 1) B 30 dX1_has_1 (by decide) (fun h1 => ?_) (fun h1 => ?_)
  · skip
    refine r_iconst (pc := 30) (x := 0) B dX1_has_30 (by decide) ?_
    exact r_zret (pc := 31) B R (by first | decide | exact bI_01 _) dX1_has_31 ⟨by clear B R X; grind [bI], rfl⟩
  · skip
    refine r_iload_n (pc := 4) B dX1_has_4 rfl ?_
    refine r_if_lt (pc := 5) B 30 dX1_has_5 (by decide) (fun h5 => ?_) (fun h5 => ?_)
    · skip
      refine r_iconst (pc := 30) (x := 0) B dX1_has_30 (by decide) ?_
      exact r_zret (pc := 31) B R (by first | decide | exact bI_01 _) dX1_has_31 ⟨by clear B R X; grind [bI], rfl⟩
    · skip
      refine r_iload_n (pc := 8) B dX1_has_8 rfl ?_
      refine r_aload_n (pc := 9) B dX1_has_9 rfl ?_
      refine r_geti (pc := 10) B FX1_19 (shH hH) rfl dX1_has_10 ?_
      refine r_icmp_gt (pc := 13) B 30 dX1_has_13 (by decide) (fun h13 => ?_) (fun h13 => ?_)
      · skip
        refine r_iconst (pc := 30) (x := 0) B dX1_has_30 (by decide) ?_
        exact r_zret (pc := 31) B R (by first | decide | exact bI_01 _) dX1_has_31 ⟨by clear B R X; grind [bI], rfl⟩
      · skip
        refine r_iload_n (pc := 16) B dX1_has_16 rfl ?_
        refine r_aload_n (pc := 17) B dX1_has_17 rfl ?_
        refine r_geti (pc := 18) B FX1_19 (shH hH) rfl dX1_has_18 ?_
        refine r_iload_n (pc := 21) B dX1_has_21 rfl ?_
        refine r_isub (pc := 22) B dX1_has_22 ?_
        refine r_bz_icmp_gt (pc := 23) B dX1_has_23 dX1_has_26 dX1_has_27 dX1_has_30 ?_
        exact r_zret (pc := 31) B R (by first | decide | exact bI_01 _) dX1_has_31 ⟨by clear B R X; grind [bI], rfl⟩
set_option maxHeartbeats 4000000 in
set_option maxRecDepth 20000 in
theorem c_put (l : Launch) (G : GG) (σ : Sg) {H : Nat} (hH : isH H) {i N : Nat} (hi : i < N) (hN : N ≤ 40) (hz : σ H 2 = nI N) (v : Int32) : CtV l G mX1_put 0 shT [.ref (ad G H), .int (nI i), .int v] σ (st2 σ (H + 1) i (putF (σ H 1) v)) := by
  refine ct_intro (by decide) (Nat.le_of_ble_eq_true rfl) (fun X B R => ?_)
  show V X G shT σ [some (.ref (ad G H)), some (.int (nI i)), some (.int v)] [] 0
  refine r_iload_n (pc := 0) B dX1_put_0 rfl ?_
  refine r_if_lt (pc := 1) B 12 dX1_put_1 (by decide) (fun h1 => ?_) (fun h1 => ?_)
  · skip
    exact absurd h1 (nI_pos (by omega))
  · skip
    refine r_iload_n (pc := 4) B dX1_put_4 rfl ?_
    refine r_aload_n (pc := 5) B dX1_put_5 rfl ?_
    refine r_geti (pc := 6) B FX1_19 (shH hH) rfl dX1_put_6 ?_
    rw [hz]
    refine r_icmp_lt (pc := 9) B 13 dX1_put_9 (by decide) (fun h9 => ?_) (fun h9 => ?_)
    · skip
      refine r_aload_n (pc := 13) B dX1_put_13 rfl ?_
      refine r_geti (pc := 14) B FX1_15 (shH hH) rfl dX1_put_14 ?_
      refine r_bipush (pc := 17) (x := 8) B dX1_put_17 (by decide) ?_
      refine r_icmp_ne (pc := 19) B 33 dX1_put_19 (by decide) (fun h19 => ?_) (fun h19 => ?_)
      · skip
        refine r_aload_n (pc := 33) B dX1_put_33 rfl ?_
        refine r_geti (pc := 34) B FX1_15 (shH hH) rfl dX1_put_34 ?_
        refine r_bipush (pc := 37) (x := 16) B dX1_put_37 (by decide) ?_
        refine r_icmp_ne (pc := 39) B 53 dX1_put_39 (by decide) (fun h39 => ?_) (fun h39 => ?_)
        · skip
          refine r_aload_n (pc := 53) B dX1_put_53 rfl ?_
          refine r_getr (pc := 54) B FX1_9 (shH hH) rfl dX1_put_54 ?_
          refine r_iload_n (pc := 57) B dX1_put_57 rfl ?_
          refine r_iload_n (pc := 58) B dX1_put_58 rfl ?_
          refine r_iast (pc := 59) B (shH1 hH) (ix_nI (N := 40) (by omega) (by decide)) dX1_put_59 ?_
          exact r_vret (pc := 60) B R dX1_put_60 ⟨rfl, by simp_all [putF]⟩
        · skip
          refine r_aload_n (pc := 42) B dX1_put_42 rfl ?_
          refine r_getr (pc := 43) B FX1_9 (shH hH) rfl dX1_put_43 ?_
          refine r_iload_n (pc := 46) B dX1_put_46 rfl ?_
          refine r_iload_n (pc := 47) B dX1_put_47 rfl ?_
          refine r_i2s (pc := 48) B dX1_put_48 ?_
          refine r_iast (pc := 49) B (shH1 hH) (ix_nI (N := 40) (by omega) (by decide)) dX1_put_49 ?_
          refine r_goto (pc := 50) B 60 dX1_put_50 (by decide) ?_
          exact r_vret (pc := 60) B R dX1_put_60 ⟨rfl, by simp_all [putF]⟩
      · skip
        refine r_aload_n (pc := 22) B dX1_put_22 rfl ?_
        refine r_getr (pc := 23) B FX1_9 (shH hH) rfl dX1_put_23 ?_
        refine r_iload_n (pc := 26) B dX1_put_26 rfl ?_
        refine r_iload_n (pc := 27) B dX1_put_27 rfl ?_
        refine r_i2b (pc := 28) B dX1_put_28 ?_
        refine r_iast (pc := 29) B (shH1 hH) (ix_nI (N := 40) (by omega) (by decide)) dX1_put_29 ?_
        refine r_goto (pc := 30) B 60 dX1_put_30 (by decide) ?_
        exact r_vret (pc := 60) B R dX1_put_60 ⟨rfl, by simp_all [putF]⟩
    · skip
      exact absurd ((nI_ltI (by omega) (by omega)).mpr hi) h9
def byF (num : Int32) (i : Nat) : Int32 := (num.toUInt32 >>> ((8 * nI i).toUInt32 &&& Int32.toUInt32 31)).toInt32 &&& 255
/-- m bytes of a number, the highest first, behind the L that are there -/
def apT (σ : Sg) (num : Int32) (L m : Nat) : Sg := fun k i => if k = 52 ∧ i = 1 then nI (L + m) else if k = 53 ∧ L ≤ i ∧ i < L + m then byF num (m - 1 - (i - L)) else σ k i
def btF (σ : Sg) (x : Int32) : Int32 := if x < 0 then -1 else if σ 52 1 ≤ x then -1 else σ 53 x.toNatClampNeg

set_option maxHeartbeats 4000000 in
set_option maxRecDepth 20000 in
theorem c_append (l : Launch) (G : GG) (σ : Sg) (num : Int32) {L m : Nat} (hL : σ 52 1 = nI L) (hm : L + m ≤ 120) : CtV l G mX3_append 0 shT [.ref (ad G 52), .int num, .int (nI m)] σ (apT σ num L m) := by
  refine ct_intro (by decide) (Nat.le_of_ble_eq_true rfl) (fun X B R => ?_)
  show V X G shT σ [some (.ref (ad G 52)), some (.int num), some (.int (nI m)), none] [] 0
  refine r_iload_n (pc := 0) B dX3_append_0 rfl ?_
  refine r_iconst (pc := 1) (x := 1) B dX3_append_1 (by decide) ?_
  refine r_isub (pc := 2) B dX3_append_2 ?_
  refine r_istore_3 (pc := 3) B dX3_append_3 (by decide) rfl ?_
  have hL4 : ∀ (n : Nat) (ρ : Sg) (M : Nat), ρ 52 1 = nI M → M + n ≤ 120 → apT ρ num M n = apT σ num L m → V X G shT ρ [some (.ref (ad G 52)), some (.int num), some (.int (nI m)), some (.int (nI n - 1))] [] 4 := by
    intro n
    induction n with
    | zero =>
      intro ρ M h1 h2 h3
      have e2 : ρ = apT σ num L m := by rw [← h3]; funext k i; simp only [apT]; grind
      refine r_iload_n (pc := 4) B dX3_append_4 rfl ?_
      refine r_if_lt (pc := 5) B 52 dX3_append_5 (by decide) (fun h5 => ?_) (fun h5 => ?_)
      · skip
        exact r_vret (pc := 52) B R dX3_append_52 ⟨rfl, e2⟩
      · skip
        exact absurd (by decide) h5
    | succ n ih =>
      intro ρ M h1 h2 h3
      rw [nI_pred]
      refine r_iload_n (pc := 4) B dX3_append_4 rfl ?_
      refine r_if_lt (pc := 5) B 52 dX3_append_5 (by decide) (fun h5 => ?_) (fun h5 => ?_)
      · skip
        exact absurd h5 (nI_pos (by omega))
      · skip
        refine r_aload_n (pc := 8) B dX3_append_8 rfl ?_
        refine r_geti (pc := 9) B FX3_15 rfl rfl dX3_append_9 ?_
        rw [h1]
        refine r_bipush (pc := 12) (x := 120) B dX3_append_12 (by decide) ?_
        refine r_icmp_ge (pc := 14) B 52 dX3_append_14 (by decide) (fun h14 => ?_) (fun h14 => ?_)
        · skip
          exact absurd (nI_ge_of (n := 120) (by omega) (by omega) h14) (by omega)
        · skip
          refine r_aload_n (pc := 17) B dX3_append_17 rfl ?_
          refine r_getr (pc := 18) B FX3_9 rfl rfl dX3_append_18 ?_
          refine r_aload_n (pc := 21) B dX3_append_21 rfl ?_
          refine r_geti (pc := 22) B FX3_15 rfl rfl dX3_append_22 ?_
          rw [h1]
          refine r_iload_n (pc := 25) B dX3_append_25 rfl ?_
          refine r_bipush (pc := 26) (x := 8) B dX3_append_26 (by decide) ?_
          refine r_iload_n (pc := 28) B dX3_append_28 rfl ?_
          refine r_imul (pc := 29) B dX3_append_29 ?_
          refine r_iushr (pc := 30) B dX3_append_30 ?_
          refine r_sipush (pc := 31) (x := 255) B dX3_append_31 (by decide) ?_
          refine r_iand (pc := 34) B dX3_append_34 ?_
          refine r_iast (pc := 35) B rfl (ix_nI (n := M) (by omega) (by decide)) dX3_append_35 ?_
          refine r_aload_n (pc := 36) B dX3_append_36 rfl ?_
          refine r_dup (pc := 37) B rfl dX3_append_37 ?_
          refine r_geti (pc := 38) B FX3_15 rfl rfl dX3_append_38 ?_
          rw [show st2 ρ 53 M _ 52 1 = nI M from h1]
          refine r_iconst (pc := 41) (x := 1) B dX3_append_41 (by decide) ?_
          refine r_iadd (pc := 42) B dX3_append_42 ?_
          rw [nI_1]
          refine r_puti (pc := 43) B PX3_15 rfl rfl dX3_append_43 ?_
          refine r_iinc_3 (pc := 46) (y := _ + (-1)) B dX3_append_46 rfl (by decide) rfl ?_
          refine r_goto (pc := 49) B 4 dX3_append_49 (by decide) ?_
          rw [show nI n + (-1) = nI n - 1 from (Int32.sub_eq_add_neg _ _).symm]
          refine ih _ (M + 1) (st2_at _ _ _ _) (by omega) ?_
          rw [← h3]
          clear ih B R
          funext k i
          simp only [apT, st2, byF]
          grind
  exact hL4 m σ L hL hm rfl
set_option maxHeartbeats 4000000 in
set_option maxRecDepth 20000 in
theorem c_byteAt (l : Launch) (G : GG) (σ : Sg) (x : Int32) {N : Nat} (hN : N ≤ 120) (hL : σ 52 1 = nI N) : CtI l G mX3_byteAt 0 shT [.ref (ad G 52), .int x] σ (btF σ x) σ := by
  refine ct_intro (by decide) (Nat.le_of_ble_eq_true rfl) (fun X B R => ?_)
  show V X G shT σ [some (.ref (ad G 52)), some (.int x)] [] 0
  refine r_iload_n (pc := 0) B dX3_byteAt_0 rfl ?_
  refine r_if_lt (pc := 1) B 21 dX3_byteAt_1 (by decide) (fun h1 => ?_) (fun h1 => ?_)
  · skip
    refine r_iconst (pc := 21) (x := (-1)) B dX3_byteAt_21 (by decide) ?_
    exact r_iret (pc := 22) B R dX3_byteAt_22 ⟨by first | (rw [btF, if_pos h1]) | (rw [btF, if_neg h1, if_pos h9]) | (rw [btF, if_neg h1, if_neg h9, hjx, nI_clamp (by omega)]), rfl⟩
  · skip
    refine r_iload_n (pc := 4) B dX3_byteAt_4 rfl ?_
    refine r_aload_n (pc := 5) B dX3_byteAt_5 rfl ?_
    refine r_geti (pc := 6) B FX3_15 rfl rfl dX3_byteAt_6 ?_
    refine r_icmp_ge (pc := 9) B 21 dX3_byteAt_9 (by decide) (fun h9 => ?_) (fun h9 => ?_)
    · skip
      refine r_iconst (pc := 21) (x := (-1)) B dX3_byteAt_21 (by decide) ?_
      exact r_iret (pc := 22) B R dX3_byteAt_22 ⟨by first | (rw [btF, if_pos h1]) | (rw [btF, if_neg h1, if_pos h9]) | (rw [btF, if_neg h1, if_neg h9, hjx, nI_clamp (by omega)]), rfl⟩
    · skip
      obtain ⟨j, hj, hjx⟩ : ∃ j, j < N ∧ x = nI j := by
        obtain ⟨j, h2, rfl⟩ := nI_of h1
        exact ⟨j, by rcases Nat.lt_or_ge j N with q | q <;> first | exact q | exact absurd (by rw [hL]; exact (nI_leI (by omega) h2).mpr q) h9, rfl⟩
      refine r_aload_n (pc := 12) B dX3_byteAt_12 rfl ?_
      refine r_getr (pc := 13) B FX3_9 rfl rfl dX3_byteAt_13 ?_
      refine r_iload_n (pc := 16) B dX3_byteAt_16 rfl ?_
      refine r_iald (pc := 17) B rfl (ix_eq hjx (N := 120) (by omega) (by decide)) dX3_byteAt_17 ?_
      refine r_goto (pc := 18) B 22 dX3_byteAt_18 (by decide) ?_
      exact r_iret (pc := 22) B R dX3_byteAt_22 ⟨by first | (rw [btF, if_pos h1]) | (rw [btF, if_neg h1, if_pos h9]) | (rw [btF, if_neg h1, if_neg h9, hjx, nI_clamp (by omega)]), rfl⟩

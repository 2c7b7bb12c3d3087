/-! the reference: its row of numbers is cell 66 -/
def sR (σ : Sg) (w : Nat → Int32) : Sg := fun k => if k = 66 then w else σ k
theorem sR_66 (σ : Sg) (w : Nat → Int32) : sR σ w 66 = w := rfl
theorem sR_ne {σ : Sg} {w : Nat → Int32} {k : Nat} (h : k ≠ 66) : sR σ w k = σ k := by simp [sR, h]
theorem sR_self (σ : Sg) : sR σ (σ 66) = σ := by funext k; by_cases h : k = 66 <;> simp [sR, h]
theorem sR_sR (σ : Sg) (w x : Nat → Int32) : sR (sR σ w) x = sR σ x := by funext k; by_cases h : k = 66 <;> simp [sR, h]
theorem st2_66 (σ : Sg) (m : Nat) (v : Int32) : st2 σ 66 m v = sR σ (upd (σ 66) m v) := by
  funext k i
  by_cases h : k = 66
  · subst h; simp [st2, sR, upd]
  · simp [st2, sR, h]
theorem t64_lt {a b : Int32} : a.toInt64 < b.toInt64 ↔ a < b := by rw [Int64.lt_iff_toInt_lt, Int32.lt_iff_toInt_lt, Int32.toInt_toInt64, Int32.toInt_toInt64]
theorem pl_nI {c : Int32} {n j : Nat} (hc : c = nI n) : c + nI j = nI (n + j) := by rw [hc, nI_add]
theorem at_nI : ∀ u, u < 8 → ∀ i, i < 8 → (53 : Int32) + 8 * nI u + nI i = nI (53 + 8 * u + i) := by decide +kernel
def gX (x : Int32) : Int32 := if x = 0 then 6 else if x = 1 then 16 else if x = 2 then 3 else if x = 3 then 3 else if x = 4 then 8 else if x = 5 then 1 else if x = 6 then 999 else 99999
theorem gX_nI : ∀ k, k < 8 → gX (nI k) = gK k := by decide +kernel
theorem mn_comm (a b : Int32) : mn a b = mn b a := by grind [mn]
theorem mx_comm (a b : Int32) : mx a b = mx b a := by grind [mx]
abbrev umR (σ : Sg) (x : Int32) : Prop := ¬ x < 0 ∧ ¬ σ 66 0 ≤ x
def fnR (σ : Sg) (j : Nat) : Sg := st2 (st2 σ 70 0 (σ 70 0 + 1)) 70 (j + 1) (σ 70 (j + 1) + 1)
theorem fA_i : ∀ j, j < 7 → (-1000001 : Int32) - fA j + 1 = nI (j + 1) := by decide +kernel
theorem fA_e : fA 0 = -1000001 ∧ fA 1 = -1000002 ∧ fA 2 = -1000003 ∧ fA 3 = -1000004 ∧ fA 4 = -1000005 ∧ fA 5 = -1000006 ∧ fA 6 = -1000007 := by decide +kernel

set_option maxHeartbeats 4000000 in
set_option maxRecDepth 20000 in
theorem e_isIn (l : Launch) (G : GG) (T : List Sh) (σ : Sg) {v a b : Int32} {v1 a1 b1 : Int64} (hv : v1 = v.toInt64) (ha : a1 = a.toInt64) (hb : b1 = b.toInt64) : CtI l G mX8_isIn 0 T [.long v1, .long a1, .long b1] σ (bI (¬ v < a ∧ ¬ b < v)) σ := by
  refine ct_intro (by decide) (Nat.le_of_ble_eq_true rfl) (fun X B R => ?_)
  show V X G T σ [some (.long v1), none, some (.long a1), none, some (.long b1), none] [] 0
  refine r_lload_n (pc := 0) B dX8_isIn_0 rfl ?_
  refine r_lload_n (pc := 1) B dX8_isIn_1 rfl ?_
  refine r_lcmp (pc := 2) B dX8_isIn_2 ?_
  refine r_if_lt (pc := 3) B 17 dX8_isIn_3 (by decide) (fun h3 => ?_) (fun h3 => ?_)
  · skip
    rw [lg_cmp_lt, hv, ha, t64_lt] at h3
    refine r_iconst (pc := 17) (x := 0) B dX8_isIn_17 (by decide) ?_
    exact r_zret (pc := 18) B R (by first | decide | exact bI_01 _) dX8_isIn_18 ⟨by first | (rw [lg_cmp_gt, hv, hb, t64_lt] at h10; clear B R X; grind [bI]) | (clear B R X; grind [bI]), rfl⟩
  · skip
    rw [lg_cmp_lt, hv, ha, t64_lt] at h3
    refine r_lload_n (pc := 6) B dX8_isIn_6 rfl ?_
    refine r_lload (pc := 7) B dX8_isIn_7 rfl ?_
    refine r_lcmp (pc := 9) B dX8_isIn_9 ?_
    refine r_if_gt (pc := 10) B 17 dX8_isIn_10 (by decide) (fun h10 => ?_) (fun h10 => ?_)
    · skip
      refine r_iconst (pc := 17) (x := 0) B dX8_isIn_17 (by decide) ?_
      exact r_zret (pc := 18) B R (by first | decide | exact bI_01 _) dX8_isIn_18 ⟨by first | (rw [lg_cmp_gt, hv, hb, t64_lt] at h10; clear B R X; grind [bI]) | (clear B R X; grind [bI]), rfl⟩
    · skip
      refine r_iconst (pc := 13) (x := 1) B dX8_isIn_13 (by decide) ?_
      refine r_goto (pc := 14) B 18 dX8_isIn_14 (by decide) ?_
      exact r_zret (pc := 18) B R (by first | decide | exact bI_01 _) dX8_isIn_18 ⟨by first | (rw [lg_cmp_gt, hv, hb, t64_lt] at h10; clear B R X; grind [bI]) | (clear B R X; grind [bI]), rfl⟩
set_option maxHeartbeats 4000000 in
set_option maxRecDepth 20000 in
theorem e_finds (l : Launch) (G : GG) (σ : Sg) {j : Nat} {x : Int32} (hx : x = fA j) (hj : j < 7) : CtI l G mX8_finds 0 shT [.ref (ad G 65), .int x] σ (fA j) (fnR σ j) := by
  subst hx
  refine ct_intro (by decide) (Nat.le_of_ble_eq_true rfl) (fun X B R => ?_)
  show V X G shT σ [some (.ref (ad G 65)), some (.int (fA j))] [] 0
  refine r_aload_n (pc := 0) B dX8_finds_0 rfl ?_
  refine r_getr (pc := 1) B FX8_22 rfl rfl dX8_finds_1 ?_
  refine r_iconst (pc := 4) (x := 0) B dX8_finds_4 (by decide) ?_
  refine r_dup2 (pc := 5) B rfl rfl dX8_finds_5 ?_
  refine r_iald (pc := 6) B rfl (ix_of 0 rfl) dX8_finds_6 ?_
  refine r_iconst (pc := 7) (x := 1) B dX8_finds_7 (by decide) ?_
  refine r_iadd (pc := 8) B dX8_finds_8 ?_
  refine r_iast (pc := 9) B rfl (ix_of 0 rfl) dX8_finds_9 ?_
  refine r_aload_n (pc := 10) B dX8_finds_10 rfl ?_
  refine r_getr (pc := 11) B FX8_22 rfl rfl dX8_finds_11 ?_
  refine r_ldc (pc := 14) B q836 dX8_finds_14 ?_
  refine r_iload_n (pc := 16) B dX8_finds_16 rfl ?_
  refine r_isub (pc := 17) B dX8_finds_17 ?_
  refine r_iconst (pc := 18) (x := 1) B dX8_finds_18 (by decide) ?_
  refine r_iadd (pc := 19) B dX8_finds_19 ?_
  refine r_dup2 (pc := 20) B rfl rfl dX8_finds_20 ?_
  refine r_iald (pc := 21) B rfl (ix_eq (fA_i j hj) (by omega) (by decide)) dX8_finds_21 ?_
  refine r_iconst (pc := 22) (x := 1) B dX8_finds_22 (by decide) ?_
  refine r_iadd (pc := 23) B dX8_finds_23 ?_
  refine r_iast (pc := 24) B rfl (ix_eq (fA_i j hj) (by omega) (by decide)) dX8_finds_24 ?_
  rw [show st2 σ 70 0 (σ 70 0 + 1) 70 (j + 1) = σ 70 (j + 1) by simp [st2]]
  refine r_iload_n (pc := 25) B dX8_finds_25 rfl ?_
  exact r_iret (pc := 26) B R dX8_finds_26 ⟨rfl, rfl⟩
set_option maxHeartbeats 4000000 in
set_option maxRecDepth 20000 in
theorem e_becomes (l : Launch) (G : GG) (σ : Sg) {m : Nat} {x : Int32} (hx : x = nI m) (hm : m < 127) (v : Int32) : CtI l G mX8_becomes 0 shT [.ref (ad G 65), .int x, .int v] σ (σ 66 m) (sR σ (upd (σ 66) m v)) := by
  subst hx
  refine ct_intro (by decide) (Nat.le_of_ble_eq_true rfl) (fun X B R => ?_)
  show V X G shT σ [some (.ref (ad G 65)), some (.int (nI m)), some (.int v), none] [] 0
  refine r_aload_n (pc := 0) B dX8_becomes_0 rfl ?_
  refine r_getr (pc := 1) B FX8_7 rfl rfl dX8_becomes_1 ?_
  refine r_iload_n (pc := 4) B dX8_becomes_4 rfl ?_
  refine r_iald (pc := 5) B rfl (ix_nI hm (by decide)) dX8_becomes_5 ?_
  refine r_istore_3 (pc := 6) B dX8_becomes_6 (by decide) rfl ?_
  refine r_aload_n (pc := 7) B dX8_becomes_7 rfl ?_
  refine r_getr (pc := 8) B FX8_7 rfl rfl dX8_becomes_8 ?_
  refine r_iload_n (pc := 11) B dX8_becomes_11 rfl ?_
  refine r_iload_n (pc := 12) B dX8_becomes_12 rfl ?_
  refine r_iast (pc := 13) B rfl (ix_nI hm (by decide)) dX8_becomes_13 ?_
  refine r_iload_n (pc := 14) B dX8_becomes_14 rfl ?_
  exact r_iret (pc := 15) B R dX8_becomes_15 ⟨rfl, st2_66 _ _ _⟩
def cpN (σ : Sg) (a c n : Nat) : Sg := fun k i => if k = c ∧ i < n then σ a i else σ k i

set_option maxHeartbeats 4000000 in
set_option maxRecDepth 20000 in
theorem e_copyRow (l : Launch) (G : GG) (σ : Sg) {a c : Nat} (ha : shT[a]? = some (ia 127)) (hc : shT[c]? = some (ia 127)) (hne : a ≠ c) : CtV l G mX8_copyRow 0 shT [.ref (ad G a), .ref (ad G c)] σ (cpN σ a c 127) := by
  refine ct_intro (by decide) (Nat.le_of_ble_eq_true rfl) (fun X B R => ?_)
  show V X G shT σ [some (.ref (ad G a)), some (.ref (ad G c)), none] [] 0
  refine r_iconst (pc := 0) (x := 0) B dX8_copyRow_0 (by decide) ?_
  refine r_istore_2 (pc := 1) B dX8_copyRow_1 (by decide) rfl ?_
  have hL2 : ∀ (n i : Nat), i ≤ 127 → 128 ≤ i + n → V X G shT (cpN σ a c i) [some (.ref (ad G a)), some (.ref (ad G c)), some (.int (nI i))] [] 2 := by
    intro n
    induction n with
    | zero => intro i h1 h2; omega
    | succ n ih =>
      intro i hi hn
      refine r_iload_n (pc := 2) B dX8_copyRow_2 rfl ?_
      refine r_bipush (pc := 3) (x := 127) B dX8_copyRow_3 (by decide) ?_
      refine r_icmp_ge (pc := 5) B 20 dX8_copyRow_5 (by decide) (fun h5 => ?_) (fun h5 => ?_)
      · skip
        have eN : i = 127 := by have := nI_ge_of (n := 127) (by omega) (by omega) h5; omega
        subst eN
        exact r_vret (pc := 20) B R dX8_copyRow_20 ⟨rfl, rfl⟩
      · skip
        have hiN : i < 127 := nI_lt_of (n := 127) (by omega) (by omega) h5
        refine r_aload_n (pc := 8) B dX8_copyRow_8 rfl ?_
        refine r_iload_n (pc := 9) B dX8_copyRow_9 rfl ?_
        refine r_aload_n (pc := 10) B dX8_copyRow_10 rfl ?_
        refine r_iload_n (pc := 11) B dX8_copyRow_11 rfl ?_
        refine r_iald (pc := 12) B ha (ix_nI hiN (by omega)) dX8_copyRow_12 ?_
        refine r_iast (pc := 13) B hc (ix_nI hiN (by omega)) dX8_copyRow_13 ?_
        refine r_iinc_2 (pc := 14) (y := _ + 1) B dX8_copyRow_14 rfl (by decide) rfl ?_
        refine r_goto (pc := 17) B 2 dX8_copyRow_17 (by decide) ?_
        rw [nI_1]
        rw [show st2 (cpN σ a c i) c i (cpN σ a c i a i) = cpN σ a c (i + 1) by clear ih B R; funext k b; simp only [st2, cpN]; grind]
        exact ih (i + 1) hiN (by omega)
  rw [show σ = cpN σ a c 0 by funext k i; simp [cpN]]
  exact hL2 128 0 (by omega) (by omega)
set_option maxHeartbeats 4000000 in
set_option maxRecDepth 20000 in
theorem e_isStep (l : Launch) (G : GG) (T : List Sh) (σ : Sg) (x : Int32) : CtI l G mX8_isStep 0 T [.int x] σ (bI (stepP x)) σ := by
  refine ct_intro (by decide) (Nat.le_of_ble_eq_true rfl) (fun X B R => ?_)
  show V X G T σ [some (.int x)] [] 0
  refine r_iload_n (pc := 0) B dX8_isStep_0 rfl ?_
  refine r_if_lt (pc := 1) B 14 dX8_isStep_1 (by decide) (fun h1 => ?_) (fun h1 => ?_)
  · skip
    refine r_iconst (pc := 14) (x := 0) B dX8_isStep_14 (by decide) ?_
    exact r_zret (pc := 15) B R (by first | decide | exact bI_01 _) dX8_isStep_15 ⟨by clear B R X; grind [bI], rfl⟩
  · skip
    refine r_iload_n (pc := 4) B dX8_isStep_4 rfl ?_
    refine r_bipush (pc := 5) (x := 16) B dX8_isStep_5 (by decide) ?_
    refine r_bz_icmp_ge (pc := 7) B dX8_isStep_7 dX8_isStep_10 dX8_isStep_11 dX8_isStep_14 ?_
    exact r_zret (pc := 15) B R (by first | decide | exact bI_01 _) dX8_isStep_15 ⟨by clear B R X; grind [bI], rfl⟩
set_option maxHeartbeats 4000000 in
set_option maxRecDepth 20000 in
theorem e_isSheet (l : Launch) (G : GG) (T : List Sh) (σ : Sg) (x : Int32) : CtI l G mX8_isSheet 0 T [.int x] σ (bI (shP x)) σ := by
  refine ct_intro (by decide) (Nat.le_of_ble_eq_true rfl) (fun X B R => ?_)
  show V X G T σ [some (.int x)] [] 0
  refine r_iload_n (pc := 0) B dX8_isSheet_0 rfl ?_
  refine r_if_lt (pc := 1) B 13 dX8_isSheet_1 (by decide) (fun h1 => ?_) (fun h1 => ?_)
  · skip
    refine r_iconst (pc := 13) (x := 0) B dX8_isSheet_13 (by decide) ?_
    exact r_zret (pc := 14) B R (by first | decide | exact bI_01 _) dX8_isSheet_14 ⟨by clear B R X; grind [bI], rfl⟩
  · skip
    refine r_iload_n (pc := 4) B dX8_isSheet_4 rfl ?_
    refine r_iconst (pc := 5) (x := 4) B dX8_isSheet_5 (by decide) ?_
    refine r_bz_icmp_ge (pc := 6) B dX8_isSheet_6 dX8_isSheet_9 dX8_isSheet_10 dX8_isSheet_13 ?_
    exact r_zret (pc := 14) B R (by first | decide | exact bI_01 _) dX8_isSheet_14 ⟨by clear B R X; grind [bI], rfl⟩
set_option maxHeartbeats 4000000 in
set_option maxRecDepth 20000 in
theorem e_isUmbrella (l : Launch) (G : GG) (σ : Sg) (x : Int32) : CtI l G mX8_isUmbrella 0 shT [.ref (ad G 65), .int x] σ (bI (umR σ x)) σ := by
  refine ct_intro (by decide) (Nat.le_of_ble_eq_true rfl) (fun X B R => ?_)
  show V X G shT σ [some (.ref (ad G 65)), some (.int x)] [] 0
  refine r_iload_n (pc := 0) B dX8_isUmbrella_0 rfl ?_
  refine r_if_lt (pc := 1) B 18 dX8_isUmbrella_1 (by decide) (fun h1 => ?_) (fun h1 => ?_)
  · skip
    refine r_iconst (pc := 18) (x := 0) B dX8_isUmbrella_18 (by decide) ?_
    exact r_zret (pc := 19) B R (by first | decide | exact bI_01 _) dX8_isUmbrella_19 ⟨by clear B R X; grind [bI], rfl⟩
  · skip
    refine r_iload_n (pc := 4) B dX8_isUmbrella_4 rfl ?_
    refine r_aload_n (pc := 5) B dX8_isUmbrella_5 rfl ?_
    refine r_getr (pc := 6) B FX8_7 rfl rfl dX8_isUmbrella_6 ?_
    refine r_iconst (pc := 9) (x := 0) B dX8_isUmbrella_9 (by decide) ?_
    refine r_iald (pc := 10) B rfl (ix_of 0 rfl) dX8_isUmbrella_10 ?_
    refine r_bz_icmp_ge (pc := 11) B dX8_isUmbrella_11 dX8_isUmbrella_14 dX8_isUmbrella_15 dX8_isUmbrella_18 ?_
    exact r_zret (pc := 19) B R (by first | decide | exact bI_01 _) dX8_isUmbrella_19 ⟨by clear B R X; grind [bI], rfl⟩
set_option maxHeartbeats 4000000 in
set_option maxRecDepth 20000 in
theorem e_at (l : Launch) (G : GG) (T : List Sh) (σ : Sg) {x y : Int32} {u i : Nat} (hx : x = nI u) (hy : y = nI i) (hu : u < 8) (hi : i < 8) : CtI l G mX8_at 0 T [.int x, .int y] σ (nI (53 + 8 * u + i)) σ := by
  subst hx hy
  refine ct_intro (by decide) (Nat.le_of_ble_eq_true rfl) (fun X B R => ?_)
  show V X G T σ [some (.int (nI u)), some (.int (nI i))] [] 0
  refine r_bipush (pc := 0) (x := 53) B dX8_at_0 (by decide) ?_
  refine r_bipush (pc := 2) (x := 8) B dX8_at_2 (by decide) ?_
  refine r_iload_n (pc := 4) B dX8_at_4 rfl ?_
  refine r_imul (pc := 5) B dX8_at_5 ?_
  refine r_iadd (pc := 6) B dX8_at_6 ?_
  refine r_iload_n (pc := 7) B dX8_at_7 rfl ?_
  refine r_iadd (pc := 8) B dX8_at_8 ?_
  exact r_iret (pc := 9) B R dX8_at_9 ⟨by rw [at_nI u hu i hi], rfl⟩
set_option maxHeartbeats 4000000 in
set_option maxRecDepth 20000 in
theorem e_its (l : Launch) (G : GG) (σ : Sg) {x y : Int32} {u i : Nat} (hx : x = nI u) (hy : y = nI i) (hu : u < 8) (hi : i < 8) : CtI l G mX8_its 0 shT [.ref (ad G 65), .int x, .int y] σ (σ 66 (53 + 8 * u + i)) σ := by
  subst hx hy
  refine ct_intro (by decide) (Nat.le_of_ble_eq_true rfl) (fun X B R => ?_)
  show V X G shT σ [some (.ref (ad G 65)), some (.int (nI u)), some (.int (nI i))] [] 0
  refine r_aload_n (pc := 0) B dX8_its_0 rfl ?_
  refine r_getr (pc := 1) B FX8_7 rfl rfl dX8_its_1 ?_
  refine r_bipush (pc := 4) (x := 53) B dX8_its_4 (by decide) ?_
  refine r_bipush (pc := 6) (x := 8) B dX8_its_6 (by decide) ?_
  refine r_iload_n (pc := 8) B dX8_its_8 rfl ?_
  refine r_imul (pc := 9) B dX8_its_9 ?_
  refine r_iadd (pc := 10) B dX8_its_10 ?_
  refine r_iload_n (pc := 11) B dX8_its_11 rfl ?_
  refine r_iadd (pc := 12) B dX8_its_12 ?_
  refine r_iald (pc := 13) B rfl (ix_eq (at_nI u hu i hi) (by omega) (by decide)) dX8_its_13 ?_
  exact r_iret (pc := 14) B R dX8_its_14 ⟨rfl, rfl⟩
set_option maxHeartbeats 4000000 in
set_option maxRecDepth 20000 in
theorem e_least (l : Launch) (G : GG) (T : List Sh) (σ : Sg) (x y : Int32) : CtI l G mX8_least 0 T [.int x, .int y] σ (mn x y) σ := by
  refine ct_intro (by decide) (Nat.le_of_ble_eq_true rfl) (fun X B R => ?_)
  show V X G T σ [some (.int x), some (.int y)] [] 0
  refine r_iload_n (pc := 0) B dX8_least_0 rfl ?_
  refine r_iload_n (pc := 1) B dX8_least_1 rfl ?_
  refine r_icmp_ge (pc := 2) B 9 dX8_least_2 (by decide) (fun h2 => ?_) (fun h2 => ?_)
  · skip
    refine r_iload_n (pc := 9) B dX8_least_9 rfl ?_
    exact r_iret (pc := 10) B R dX8_least_10 ⟨by clear B R X; grind [mn], rfl⟩
  · skip
    refine r_iload_n (pc := 5) B dX8_least_5 rfl ?_
    refine r_goto (pc := 6) B 10 dX8_least_6 (by decide) ?_
    exact r_iret (pc := 10) B R dX8_least_10 ⟨by clear B R X; grind [mn], rfl⟩
set_option maxHeartbeats 4000000 in
set_option maxRecDepth 20000 in
theorem e_greatest (l : Launch) (G : GG) (T : List Sh) (σ : Sg) (x y : Int32) : CtI l G mX8_greatest 0 T [.int x, .int y] σ (mx x y) σ := by
  refine ct_intro (by decide) (Nat.le_of_ble_eq_true rfl) (fun X B R => ?_)
  show V X G T σ [some (.int x), some (.int y)] [] 0
  refine r_iload_n (pc := 0) B dX8_greatest_0 rfl ?_
  refine r_iload_n (pc := 1) B dX8_greatest_1 rfl ?_
  refine r_icmp_le (pc := 2) B 9 dX8_greatest_2 (by decide) (fun h2 => ?_) (fun h2 => ?_)
  · skip
    refine r_iload_n (pc := 9) B dX8_greatest_9 rfl ?_
    exact r_iret (pc := 10) B R dX8_greatest_10 ⟨by clear B R X; grind [mx], rfl⟩
  · skip
    refine r_iload_n (pc := 5) B dX8_greatest_5 rfl ?_
    refine r_goto (pc := 6) B 10 dX8_greatest_6 (by decide) ?_
    exact r_iret (pc := 10) B R dX8_greatest_10 ⟨by clear B R X; grind [mx], rfl⟩
set_option maxHeartbeats 4000000 in
set_option maxRecDepth 20000 in
theorem e_orNone (l : Launch) (G : GG) (σ : Sg) (x : Int32) : Ct l G mX8_orNone 1 shT [.ref (ad G 65), .int x] σ (fun r τ => (x < 0 ∧ r = some (.int (fA 3)) ∧ τ = fnR σ 3) ∨ (¬ x < 0 ∧ r = some (.int x) ∧ τ = σ)) := by
  refine ct_intro (by decide) (Nat.le_of_ble_eq_true rfl) (fun X B R => ?_)
  show V X G shT σ [some (.ref (ad G 65)), some (.int x)] [] 0
  refine r_iload_n (pc := 0) B dX8_orNone_0 rfl ?_
  refine r_if_ge (pc := 1) B 13 dX8_orNone_1 (by decide) (fun h1 => ?_) (fun h1 => ?_)
  · skip
    refine r_iload_n (pc := 13) B dX8_orNone_13 rfl ?_
    exact r_iret (pc := 14) B R dX8_orNone_14 (by first | exact Or.inl ⟨Int32.not_le.mp h1, rfl, rfl⟩ | exact Or.inr ⟨Int32.not_lt.mpr h1, rfl, rfl⟩)
  · skip
    refine r_aload_n (pc := 4) B dX8_orNone_4 rfl ?_
    refine r_ldc (pc := 5) B q989 dX8_orNone_5 ?_
    refine r_cVi1 (pc := 7) B KX8_39 (e_finds l G _ (j := 3) rfl (by decide)) rfl rfl (by decide) (Nat.le_of_ble_eq_true rfl) dX8_orNone_7 ?_
    refine r_goto (pc := 10) B 14 dX8_orNone_10 (by decide) ?_
    exact r_iret (pc := 14) B R dX8_orNone_14 (by first | exact Or.inl ⟨Int32.not_le.mp h1, rfl, rfl⟩ | exact Or.inr ⟨Int32.not_lt.mpr h1, rfl, rfl⟩)
set_option maxHeartbeats 4000000 in
set_option maxRecDepth 20000 in
theorem e_greatestOf (l : Launch) (G : GG) (T : List Sh) (σ : Sg) (x : Int32) : CtI l G mX8_greatestOf 0 T [.int x] σ (gX x) σ := by
  refine ct_intro (by decide) (Nat.le_of_ble_eq_true rfl) (fun X B R => ?_)
  show V X G T σ [some (.int x)] [] 0
  refine r_iload_n (pc := 0) B dX8_greatestOf_0 rfl ?_
  refine r_tsC (pc := 1) B 0 44 dX8_greatestOf_1 (by decide) (by decide) rfl (by decide) (fun h1_0 => ?_) (fun h1_0 => ?_)
  · skip
    refine r_bipush (pc := 44) (x := 6) B dX8_greatestOf_44 (by decide) ?_
    exact r_iret (pc := 46) B R dX8_greatestOf_46 ⟨by clear B R X; grind [gX], rfl⟩
  refine r_tsC (pc := 1) B 1 47 dX8_greatestOf_1 (by decide) (by decide) rfl (by decide) (fun h1_1 => ?_) (fun h1_1 => ?_)
  · skip
    refine r_bipush (pc := 47) (x := 16) B dX8_greatestOf_47 (by decide) ?_
    exact r_iret (pc := 49) B R dX8_greatestOf_49 ⟨by clear B R X; grind [gX], rfl⟩
  refine r_tsC (pc := 1) B 2 50 dX8_greatestOf_1 (by decide) (by decide) rfl (by decide) (fun h1_2 => ?_) (fun h1_2 => ?_)
  · skip
    refine r_iconst (pc := 50) (x := 3) B dX8_greatestOf_50 (by decide) ?_
    exact r_iret (pc := 51) B R dX8_greatestOf_51 ⟨by clear B R X; grind [gX], rfl⟩
  refine r_tsC (pc := 1) B 3 50 dX8_greatestOf_1 (by decide) (by decide) rfl (by decide) (fun h1_3 => ?_) (fun h1_3 => ?_)
  · skip
    refine r_iconst (pc := 50) (x := 3) B dX8_greatestOf_50 (by decide) ?_
    exact r_iret (pc := 51) B R dX8_greatestOf_51 ⟨by clear B R X; grind [gX], rfl⟩
  refine r_tsC (pc := 1) B 4 52 dX8_greatestOf_1 (by decide) (by decide) rfl (by decide) (fun h1_4 => ?_) (fun h1_4 => ?_)
  · skip
    refine r_bipush (pc := 52) (x := 8) B dX8_greatestOf_52 (by decide) ?_
    exact r_iret (pc := 54) B R dX8_greatestOf_54 ⟨by clear B R X; grind [gX], rfl⟩
  refine r_tsC (pc := 1) B 5 55 dX8_greatestOf_1 (by decide) (by decide) rfl (by decide) (fun h1_5 => ?_) (fun h1_5 => ?_)
  · skip
    refine r_iconst (pc := 55) (x := 1) B dX8_greatestOf_55 (by decide) ?_
    exact r_iret (pc := 56) B R dX8_greatestOf_56 ⟨by clear B R X; grind [gX], rfl⟩
  refine r_tsC (pc := 1) B 6 57 dX8_greatestOf_1 (by decide) (by decide) rfl (by decide) (fun h1_6 => ?_) (fun h1_6 => ?_)
  · skip
    refine r_sipush (pc := 57) (x := 999) B dX8_greatestOf_57 (by decide) ?_
    exact r_iret (pc := 60) B R dX8_greatestOf_60 ⟨by clear B R X; grind [gX], rfl⟩
  refine r_tsD (pc := 1) B 61 dX8_greatestOf_1 (by have e0 := ts_in (c := 0) h1_0 rfl; have e1 := ts_in (c := 1) h1_1 rfl; have e2 := ts_in (c := 2) h1_2 rfl; have e3 := ts_in (c := 3) h1_3 rfl; have e4 := ts_in (c := 4) h1_4 rfl; have e5 := ts_in (c := 5) h1_5 rfl; have e6 := ts_in (c := 6) h1_6 rfl; omega) (by decide) ?_
  refine r_ldc (pc := 61) B q914 dX8_greatestOf_61 ?_
  exact r_iret (pc := 63) B R dX8_greatestOf_63 ⟨by clear B R X; grind [gX], rfl⟩
set_option maxHeartbeats 4000000 in
set_option maxRecDepth 20000 in
theorem e_wind (l : Launch) (G : GG) (σ : Sg) {j : Nat} {x : Int32} (hx : x = nI j) (hj : j < 16) : CtI l G mX8_wind 0 shT [.ref (ad G 65), .int x] σ (windF (fun k => σ 66 (21 + k)) (fun k => σ 66 (37 + k)) (σ 66 4) (σ 66 1) j) σ := by
  subst hx
  refine ct_intro (by decide) (Nat.le_of_ble_eq_true rfl) (fun X B R => ?_)
  show V X G shT σ [some (.ref (ad G 65)), some (.int (nI j)), none] [] 0
  refine r_aload_n (pc := 0) B dX8_wind_0 rfl ?_
  refine r_getr (pc := 1) B FX8_7 rfl rfl dX8_wind_1 ?_
  refine r_bipush (pc := 4) (x := 21) B dX8_wind_4 (by decide) ?_
  refine r_iload_n (pc := 6) B dX8_wind_6 rfl ?_
  refine r_iadd (pc := 7) B dX8_wind_7 ?_
  refine r_iald (pc := 8) B rfl (ix_eq (pl_nI (n := 21) rfl) (by omega) (by decide)) dX8_wind_8 ?_
  refine r_aload_n (pc := 9) B dX8_wind_9 rfl ?_
  refine r_getr (pc := 10) B FX8_7 rfl rfl dX8_wind_10 ?_
  refine r_iconst (pc := 13) (x := 1) B dX8_wind_13 (by decide) ?_
  refine r_iald (pc := 14) B rfl (ix_of 1 rfl) dX8_wind_14 ?_
  refine r_iconst (pc := 15) (x := 3) B dX8_wind_15 (by decide) ?_
  refine r_irem (pc := 16) B (by decide) dX8_wind_16 ?_
  refine r_iconst (pc := 17) (x := 2) B dX8_wind_17 (by decide) ?_
  refine r_icmp_ne (pc := 18) B 30 dX8_wind_18 (by decide) (fun h18 => ?_) (fun h18 => ?_)
  · skip
    refine r_iconst (pc := 30) (x := 0) B dX8_wind_30 (by decide) ?_
    refine r_iadd (pc := 31) B dX8_wind_31 ?_
    refine r_istore_2 (pc := 32) B dX8_wind_32 (by decide) rfl ?_
    refine r_aload_n (pc := 33) B dX8_wind_33 rfl ?_
    refine r_getr (pc := 34) B FX8_7 rfl rfl dX8_wind_34 ?_
    refine r_bipush (pc := 37) (x := 37) B dX8_wind_37 (by decide) ?_
    refine r_iload_n (pc := 39) B dX8_wind_39 rfl ?_
    refine r_iadd (pc := 40) B dX8_wind_40 ?_
    refine r_iald (pc := 41) B rfl (ix_eq (pl_nI (n := 37) rfl) (by omega) (by decide)) dX8_wind_41 ?_
    refine r_iconst (pc := 42) (x := 1) B dX8_wind_42 (by decide) ?_
    refine r_icmp_ne (pc := 43) B 52 dX8_wind_43 (by decide) (fun h43 => ?_) (fun h43 => ?_)
    · skip
      refine r_iload_n (pc := 52) B dX8_wind_52 rfl ?_
      exact r_iret (pc := 53) B R dX8_wind_53 ⟨by clear B R X; simp only [windF, Int32.add_zero]; grind, rfl⟩
    · skip
      refine r_iload_n (pc := 46) B dX8_wind_46 rfl ?_
      refine r_iconst (pc := 47) (x := 2) B dX8_wind_47 (by decide) ?_
      refine r_idiv (pc := 48) B (by decide) dX8_wind_48 ?_
      refine r_goto (pc := 49) B 53 dX8_wind_49 (by decide) ?_
      exact r_iret (pc := 53) B R dX8_wind_53 ⟨by clear B R X; simp only [windF, Int32.add_zero]; grind, rfl⟩
  · skip
    refine r_aload_n (pc := 21) B dX8_wind_21 rfl ?_
    refine r_getr (pc := 22) B FX8_7 rfl rfl dX8_wind_22 ?_
    refine r_iconst (pc := 25) (x := 4) B dX8_wind_25 (by decide) ?_
    refine r_iald (pc := 26) B rfl (ix_of 4 rfl) dX8_wind_26 ?_
    refine r_goto (pc := 27) B 31 dX8_wind_27 (by decide) ?_
    refine r_iadd (pc := 31) B dX8_wind_31 ?_
    refine r_istore_2 (pc := 32) B dX8_wind_32 (by decide) rfl ?_
    refine r_aload_n (pc := 33) B dX8_wind_33 rfl ?_
    refine r_getr (pc := 34) B FX8_7 rfl rfl dX8_wind_34 ?_
    refine r_bipush (pc := 37) (x := 37) B dX8_wind_37 (by decide) ?_
    refine r_iload_n (pc := 39) B dX8_wind_39 rfl ?_
    refine r_iadd (pc := 40) B dX8_wind_40 ?_
    refine r_iald (pc := 41) B rfl (ix_eq (pl_nI (n := 37) rfl) (by omega) (by decide)) dX8_wind_41 ?_
    refine r_iconst (pc := 42) (x := 1) B dX8_wind_42 (by decide) ?_
    refine r_icmp_ne (pc := 43) B 52 dX8_wind_43 (by decide) (fun h43 => ?_) (fun h43 => ?_)
    · skip
      refine r_iload_n (pc := 52) B dX8_wind_52 rfl ?_
      exact r_iret (pc := 53) B R dX8_wind_53 ⟨by clear B R X; simp only [windF, Int32.add_zero]; grind, rfl⟩
    · skip
      refine r_iload_n (pc := 46) B dX8_wind_46 rfl ?_
      refine r_iconst (pc := 47) (x := 2) B dX8_wind_47 (by decide) ?_
      refine r_idiv (pc := 48) B (by decide) dX8_wind_48 ?_
      refine r_goto (pc := 49) B 53 dX8_wind_49 (by decide) ?_
      exact r_iret (pc := 53) B R dX8_wind_53 ⟨by clear B R X; simp only [windF, Int32.add_zero]; grind, rfl⟩
set_option maxHeartbeats 4000000 in
set_option maxRecDepth 20000 in
theorem e_stiff (l : Launch) (G : GG) (σ : Sg) {u : Nat} {x : Int32} (hx : x = nI u) (hu : u < 8) : CtI l G mX8_stiff 1 shT [.ref (ad G 65), .int x] σ (stiffF (um (σ 66) u)) σ := by
  subst hx
  refine ct_intro (by decide) (Nat.le_of_ble_eq_true rfl) (fun X B R => ?_)
  show V X G shT σ [some (.ref (ad G 65)), some (.int (nI u)), none, none] [] 0
  refine r_iconst (pc := 0) (x := 5) B dX8_stiff_0 (by decide) ?_
  refine r_aload_n (pc := 1) B dX8_stiff_1 rfl ?_
  refine r_iload_n (pc := 2) B dX8_stiff_2 rfl ?_
  refine r_iconst (pc := 3) (x := 4) B dX8_stiff_3 (by decide) ?_
  refine r_cVi2 (pc := 4) B KX8_59 (e_its l G _ (u := u) (i := 4) rfl rfl hu (by decide)) rfl rfl (by decide) (Nat.le_of_ble_eq_true rfl) dX8_stiff_4 ?_
  refine r_imul (pc := 7) B dX8_stiff_7 ?_
  refine r_istore_2 (pc := 8) B dX8_stiff_8 (by decide) rfl ?_
  refine r_iconst (pc := 9) (x := 0) B dX8_stiff_9 (by decide) ?_
  refine r_iload_n (pc := 10) B dX8_stiff_10 rfl ?_
  refine r_bipush (pc := 11) (x := 15) B dX8_stiff_11 (by decide) ?_
  refine r_iadd (pc := 13) B dX8_stiff_13 ?_
  refine r_aload_n (pc := 14) B dX8_stiff_14 rfl ?_
  refine r_iload_n (pc := 15) B dX8_stiff_15 rfl ?_
  refine r_bipush (pc := 16) (x := 7) B dX8_stiff_16 (by decide) ?_
  refine r_cVi2 (pc := 18) B KX8_59 (e_its l G _ (u := u) (i := 7) rfl rfl hu (by decide)) rfl rfl (by decide) (Nat.le_of_ble_eq_true rfl) dX8_stiff_18 ?_
  refine r_bipush (pc := 21) (x := 100) B dX8_stiff_21 (by decide) ?_
  refine r_idiv (pc := 23) B (by decide) dX8_stiff_23 ?_
  refine r_isub (pc := 24) B dX8_stiff_24 ?_
  refine r_cSi2 (pc := 25) B KX8_80 (e_greatest l G _ _ _ _) (by decide) (Nat.le_of_ble_eq_true rfl) dX8_stiff_25 ?_
  refine r_istore_3 (pc := 28) B dX8_stiff_28 (by decide) rfl ?_
  refine r_aload_n (pc := 29) B dX8_stiff_29 rfl ?_
  refine r_iload_n (pc := 30) B dX8_stiff_30 rfl ?_
  refine r_iconst (pc := 31) (x := 0) B dX8_stiff_31 (by decide) ?_
  refine r_cVi2 (pc := 32) B KX8_59 (e_its l G _ (u := u) (i := 0) rfl rfl hu (by decide)) rfl rfl (by decide) (Nat.le_of_ble_eq_true rfl) dX8_stiff_32 ?_
  refine r_tsC (pc := 35) B 1 72 dX8_stiff_35 (by decide) (by decide) rfl (by decide) (fun h35_1 => ?_) (fun h35_1 => ?_)
  · skip
    refine r_iconst (pc := 72) (x := 0) B dX8_stiff_72 (by decide) ?_
    refine r_iload_n (pc := 73) B dX8_stiff_73 rfl ?_
    refine r_bipush (pc := 74) (x := 10) B dX8_stiff_74 (by decide) ?_
    refine r_isub (pc := 76) B dX8_stiff_76 ?_
    refine r_cSi2 (pc := 77) B KX8_80 (e_greatest l G _ _ _ _) (by decide) (Nat.le_of_ble_eq_true rfl) dX8_stiff_77 ?_
    exact r_iret (pc := 80) B R dX8_stiff_80 ⟨by clear B R X; simp only [stiffF, um]; grind, rfl⟩
  refine r_tsC (pc := 35) B 2 81 dX8_stiff_35 (by decide) (by decide) rfl (by decide) (fun h35_2 => ?_) (fun h35_2 => ?_)
  · skip
    refine r_iload_n (pc := 81) B dX8_stiff_81 rfl ?_
    refine r_bipush (pc := 82) (x := 15) B dX8_stiff_82 (by decide) ?_
    refine r_iadd (pc := 84) B dX8_stiff_84 ?_
    exact r_iret (pc := 85) B R dX8_stiff_85 ⟨by clear B R X; simp only [stiffF, um]; grind, rfl⟩
  refine r_tsC (pc := 35) B 3 86 dX8_stiff_35 (by decide) (by decide) rfl (by decide) (fun h35_3 => ?_) (fun h35_3 => ?_)
  · skip
    refine r_iload_n (pc := 86) B dX8_stiff_86 rfl ?_
    exact r_iret (pc := 87) B R dX8_stiff_87 ⟨by clear B R X; simp only [stiffF, um]; grind, rfl⟩
  refine r_tsC (pc := 35) B 4 88 dX8_stiff_35 (by decide) (by decide) rfl (by decide) (fun h35_4 => ?_) (fun h35_4 => ?_)
  · skip
    refine r_iload_n (pc := 88) B dX8_stiff_88 rfl ?_
    refine r_iconst (pc := 89) (x := 2) B dX8_stiff_89 (by decide) ?_
    refine r_idiv (pc := 90) B (by decide) dX8_stiff_90 ?_
    exact r_iret (pc := 91) B R dX8_stiff_91 ⟨by clear B R X; simp only [stiffF, um]; grind, rfl⟩
  refine r_tsC (pc := 35) B 5 92 dX8_stiff_35 (by decide) (by decide) rfl (by decide) (fun h35_5 => ?_) (fun h35_5 => ?_)
  · skip
    refine r_iconst (pc := 92) (x := 5) B dX8_stiff_92 (by decide) ?_
    exact r_iret (pc := 93) B R dX8_stiff_93 ⟨by clear B R X; simp only [stiffF, um]; grind, rfl⟩
  refine r_tsC (pc := 35) B 6 94 dX8_stiff_35 (by decide) (by decide) rfl (by decide) (fun h35_6 => ?_) (fun h35_6 => ?_)
  · skip
    refine r_iconst (pc := 94) (x := 0) B dX8_stiff_94 (by decide) ?_
    refine r_iload_n (pc := 95) B dX8_stiff_95 rfl ?_
    refine r_bipush (pc := 96) (x := 10) B dX8_stiff_96 (by decide) ?_
    refine r_isub (pc := 98) B dX8_stiff_98 ?_
    refine r_cSi2 (pc := 99) B KX8_80 (e_greatest l G _ _ _ _) (by decide) (Nat.le_of_ble_eq_true rfl) dX8_stiff_99 ?_
    refine r_iconst (pc := 102) (x := 2) B dX8_stiff_102 (by decide) ?_
    refine r_idiv (pc := 103) B (by decide) dX8_stiff_103 ?_
    exact r_iret (pc := 104) B R dX8_stiff_104 ⟨by clear B R X; simp only [stiffF, um]; grind, rfl⟩
  refine r_tsD (pc := 35) B 105 dX8_stiff_35 (by have e0 := ts_in (c := 1) h35_1 rfl; have e1 := ts_in (c := 2) h35_2 rfl; have e2 := ts_in (c := 3) h35_3 rfl; have e3 := ts_in (c := 4) h35_4 rfl; have e4 := ts_in (c := 5) h35_5 rfl; have e5 := ts_in (c := 6) h35_6 rfl; omega) (by decide) ?_
  refine r_iload_n (pc := 105) B dX8_stiff_105 rfl ?_
  exact r_iret (pc := 106) B R dX8_stiff_106 ⟨by clear B R X; simp only [stiffF, um]; grind, rfl⟩
theorem br_dec : ∀ a, a < 4 → ∀ b, b < 3 → (nI a + nI b = 1 ↔ (nI a = 0 ∧ nI b = 1) ∨ (nI a = 1 ∧ nI b = 0)) := by decide +kernel
theorem nI_wi {a g : Nat} (hg : g < 2 ^ 31) (h : a ≤ g) : withinP (nI a) (nI g) := ⟨nI_pos (by omega), fun q => by have := (nI_ltI hg (by omega)).mp q; omega⟩
theorem br_iff {h f : Int32} (hh : withinP h 3) (hf : withinP f 2) : h + f = 1 ↔ (h = 0 ∧ f = 1) ∨ (h = 1 ∧ f = 0) := by
  obtain ⟨a, ha, rfl⟩ := wi_nI (g := 3) (by decide) hh
  obtain ⟨b, hb, rfl⟩ := wi_nI (g := 2) (by decide) hf
  exact br_dec a (by omega) b (by omega)
theorem cv_dec : ∀ r, r < 100 → mn (nI r) (nI r / 2 + nI r / 4) = nI r / 2 + nI r / 4 ∧ mn (nI r) (nI r / 3) = nI r / 3 ∧ mn (nI r) (mx 0 (nI r / 3 - 1)) = mx 0 (nI r / 3 - 1) ∧ mn (nI r) 0 = 0 ∧ mn (nI r) (nI r / 2) = nI r / 2 := by decide +kernel
theorem cv_le : ∀ r, r < 100 → withinP (nI r / 2 + nI r / 4) (nI r) ∧ withinP (nI r / 3) (nI r) ∧ withinP (mx 0 (nI r / 3 - 1)) (nI r) ∧ withinP (nI r / 2) (nI r) ∧ withinP (mn (nI r) 4) (nI r) ∧ withinP (mn (nI r) (nI r / 2 + nI r / 4 + 2)) (nI r) := by decide +kernel

set_option maxHeartbeats 4000000 in
set_option maxRecDepth 20000 in
theorem e_bearsOn (l : Launch) (G : GG) (σ : Sg) {u j : Nat} {x y h : Int32} (hx : x = nI u) (hy : y = nI j) (hu : u < 8) (hj : j < 16) (hh : withinP h 3) (hf : withinP (σ 66 (5 + j)) 2) : CtI l G mX8_bearsOn 2 shT [.ref (ad G 65), .int x, .int y, .int h] σ (bearF (stiffF (um (σ 66) u)) (σ 66 (5 + j)) h) σ := by
  subst hx hy
  have hb := br_iff hh hf
  refine ct_intro (by decide) (Nat.le_of_ble_eq_true rfl) (fun X B R => ?_)
  show V X G shT σ [some (.ref (ad G 65)), some (.int (nI u)), some (.int (nI j)), some (.int h), none, none] [] 0
  refine r_aload_n (pc := 0) B dX8_bearsOn_0 rfl ?_
  refine r_getr (pc := 1) B FX8_7 rfl rfl dX8_bearsOn_1 ?_
  refine r_iconst (pc := 4) (x := 5) B dX8_bearsOn_4 (by decide) ?_
  refine r_iload_n (pc := 5) B dX8_bearsOn_5 rfl ?_
  refine r_iadd (pc := 6) B dX8_bearsOn_6 ?_
  refine r_iald (pc := 7) B rfl (ix_eq (pl_nI (n := 5) rfl) (by omega) (by decide)) dX8_bearsOn_7 ?_
  refine r_istore_4 (pc := 8) B dX8_bearsOn_8 (by decide) rfl ?_
  refine r_aload_n (pc := 10) B dX8_bearsOn_10 rfl ?_
  refine r_iload_n (pc := 11) B dX8_bearsOn_11 rfl ?_
  refine r_cVi1 (pc := 12) B KX8_83 (e_stiff l G _ rfl hu) rfl rfl (by decide) (Nat.le_of_ble_eq_true rfl) dX8_bearsOn_12 ?_
  refine r_istore_5 (pc := 15) B dX8_bearsOn_15 (by decide) rfl ?_
  refine r_iload_n (pc := 17) B dX8_bearsOn_17 rfl ?_
  refine r_iload (pc := 18) B dX8_bearsOn_18 rfl ?_
  refine r_icmp_ne (pc := 20) B 30 dX8_bearsOn_20 (by decide) (fun h20 => ?_) (fun h20 => ?_)
  · skip
    refine r_iload_n (pc := 30) B dX8_bearsOn_30 rfl ?_
    refine r_iload (pc := 31) B dX8_bearsOn_31 rfl ?_
    refine r_iadd (pc := 33) B dX8_bearsOn_33 ?_
    refine r_iconst (pc := 34) (x := 1) B dX8_bearsOn_34 (by decide) ?_
    refine r_icmp_ne (pc := 35) B 45 dX8_bearsOn_35 (by decide) (fun h35 => ?_) (fun h35 => ?_)
    · skip
      refine r_iload (pc := 45) B dX8_bearsOn_45 rfl ?_
      exact r_iret (pc := 47) B R dX8_bearsOn_47 ⟨by clear B R X; simp only [bearF]; grind, rfl⟩
    · skip
      refine r_iload (pc := 38) B dX8_bearsOn_38 rfl ?_
      refine r_iconst (pc := 40) (x := 2) B dX8_bearsOn_40 (by decide) ?_
      refine r_idiv (pc := 41) B (by decide) dX8_bearsOn_41 ?_
      refine r_goto (pc := 42) B 47 dX8_bearsOn_42 (by decide) ?_
      exact r_iret (pc := 47) B R dX8_bearsOn_47 ⟨by clear B R X; simp only [bearF]; grind, rfl⟩
  · skip
    refine r_iconst (pc := 23) (x := 2) B dX8_bearsOn_23 (by decide) ?_
    refine r_iload (pc := 24) B dX8_bearsOn_24 rfl ?_
    refine r_imul (pc := 26) B dX8_bearsOn_26 ?_
    refine r_goto (pc := 27) B 47 dX8_bearsOn_27 (by decide) ?_
    exact r_iret (pc := 47) B R dX8_bearsOn_47 ⟨by clear B R X; simp only [bearF]; grind, rfl⟩
set_option maxHeartbeats 4000000 in
set_option maxRecDepth 20000 in
theorem e_covers (l : Launch) (G : GG) (σ : Sg) {u : Nat} {x : Int32} (hx : x = nI u) (hu : u < 8) (hr : withinP (σ 66 3) 99) : CtI l G mX8_covers 1 shT [.ref (ad G 65), .int x] σ (covF (σ 66 3) (σ 66 1) (um (σ 66) u 0) (um (σ 66) u 7)) σ := by
  subst hx
  obtain ⟨r, hr1, hr2⟩ := wi_nI (g := 99) (by decide) hr
  obtain ⟨k1, k2, k3, k4, k5⟩ := cv_dec r (by omega)
  rw [← hr2] at k1 k2 k3 k4 k5
  refine ct_intro (by decide) (Nat.le_of_ble_eq_true rfl) (fun X B R => ?_)
  show V X G shT σ [some (.ref (ad G 65)), some (.int (nI u)), none, none, none] [] 0
  refine r_aload_n (pc := 0) B dX8_covers_0 rfl ?_
  refine r_getr (pc := 1) B FX8_7 rfl rfl dX8_covers_1 ?_
  refine r_iconst (pc := 4) (x := 3) B dX8_covers_4 (by decide) ?_
  refine r_iald (pc := 5) B rfl (ix_of 3 rfl) dX8_covers_5 ?_
  refine r_istore_2 (pc := 6) B dX8_covers_6 (by decide) rfl ?_
  refine r_iconst (pc := 7) (x := 0) B dX8_covers_7 (by decide) ?_
  refine r_iload_n (pc := 8) B dX8_covers_8 rfl ?_
  refine r_iconst (pc := 9) (x := 3) B dX8_covers_9 (by decide) ?_
  refine r_idiv (pc := 10) B (by decide) dX8_covers_10 ?_
  refine r_iconst (pc := 11) (x := 1) B dX8_covers_11 (by decide) ?_
  refine r_isub (pc := 12) B dX8_covers_12 ?_
  refine r_cSi2 (pc := 13) B KX8_80 (e_greatest l G _ _ _ _) (by decide) (Nat.le_of_ble_eq_true rfl) dX8_covers_13 ?_
  refine r_istore_3 (pc := 16) B dX8_covers_16 (by decide) rfl ?_
  refine r_aload_n (pc := 17) B dX8_covers_17 rfl ?_
  refine r_iload_n (pc := 18) B dX8_covers_18 rfl ?_
  refine r_iconst (pc := 19) (x := 0) B dX8_covers_19 (by decide) ?_
  refine r_cVi2 (pc := 20) B KX8_59 (e_its l G _ (u := u) (i := 0) rfl rfl hu (by decide)) rfl rfl (by decide) (Nat.le_of_ble_eq_true rfl) dX8_covers_20 ?_
  refine r_tsC (pc := 23) B 1 60 dX8_covers_23 (by decide) (by decide) rfl (by decide) (fun h23_1 => ?_) (fun h23_1 => ?_)
  · skip
    refine r_iload_n (pc := 60) B dX8_covers_60 rfl ?_
    refine r_iconst (pc := 61) (x := 2) B dX8_covers_61 (by decide) ?_
    refine r_idiv (pc := 62) B (by decide) dX8_covers_62 ?_
    refine r_iload_n (pc := 63) B dX8_covers_63 rfl ?_
    refine r_iconst (pc := 64) (x := 4) B dX8_covers_64 (by decide) ?_
    refine r_idiv (pc := 65) B (by decide) dX8_covers_65 ?_
    refine r_iadd (pc := 66) B dX8_covers_66 ?_
    refine r_istore_4 (pc := 67) B dX8_covers_67 (by decide) rfl ?_
    refine r_goto (pc := 69) B 148 dX8_covers_69 (by decide) ?_
    refine r_iload_n (pc := 148) B dX8_covers_148 rfl ?_
    refine r_iload (pc := 149) B dX8_covers_149 rfl ?_
    refine r_cSi2 (pc := 151) B KX8_86 (e_least l G _ _ _ _) (by decide) (Nat.le_of_ble_eq_true rfl) dX8_covers_151 ?_
    exact r_iret (pc := 154) B R dX8_covers_154 ⟨by clear B R X; simp only [covF, um]; grind, rfl⟩
  refine r_tsC (pc := 23) B 2 72 dX8_covers_23 (by decide) (by decide) rfl (by decide) (fun h23_2 => ?_) (fun h23_2 => ?_)
  · skip
    refine r_iload_n (pc := 72) B dX8_covers_72 rfl ?_
    refine r_iconst (pc := 73) (x := 3) B dX8_covers_73 (by decide) ?_
    refine r_idiv (pc := 74) B (by decide) dX8_covers_74 ?_
    refine r_istore_4 (pc := 75) B dX8_covers_75 (by decide) rfl ?_
    refine r_goto (pc := 77) B 148 dX8_covers_77 (by decide) ?_
    refine r_iload_n (pc := 148) B dX8_covers_148 rfl ?_
    refine r_iload (pc := 149) B dX8_covers_149 rfl ?_
    refine r_cSi2 (pc := 151) B KX8_86 (e_least l G _ _ _ _) (by decide) (Nat.le_of_ble_eq_true rfl) dX8_covers_151 ?_
    exact r_iret (pc := 154) B R dX8_covers_154 ⟨by clear B R X; simp only [covF, um]; grind, rfl⟩
  refine r_tsC (pc := 23) B 3 80 dX8_covers_23 (by decide) (by decide) rfl (by decide) (fun h23_3 => ?_) (fun h23_3 => ?_)
  · skip
    refine r_iload_n (pc := 80) B dX8_covers_80 rfl ?_
    refine r_istore_4 (pc := 81) B dX8_covers_81 (by decide) rfl ?_
    refine r_goto (pc := 83) B 148 dX8_covers_83 (by decide) ?_
    refine r_iload_n (pc := 148) B dX8_covers_148 rfl ?_
    refine r_iload (pc := 149) B dX8_covers_149 rfl ?_
    refine r_cSi2 (pc := 151) B KX8_86 (e_least l G _ _ _ _) (by decide) (Nat.le_of_ble_eq_true rfl) dX8_covers_151 ?_
    exact r_iret (pc := 154) B R dX8_covers_154 ⟨by clear B R X; simp only [covF, um]; grind, rfl⟩
  refine r_tsC (pc := 23) B 4 86 dX8_covers_23 (by decide) (by decide) rfl (by decide) (fun h23_4 => ?_) (fun h23_4 => ?_)
  · skip
    refine r_aload_n (pc := 86) B dX8_covers_86 rfl ?_
    refine r_getr (pc := 87) B FX8_7 rfl rfl dX8_covers_87 ?_
    refine r_iconst (pc := 90) (x := 1) B dX8_covers_90 (by decide) ?_
    refine r_iald (pc := 91) B rfl (ix_of 1 rfl) dX8_covers_91 ?_
    refine r_iconst (pc := 92) (x := 2) B dX8_covers_92 (by decide) ?_
    refine r_irem (pc := 93) B (by decide) dX8_covers_93 ?_
    refine r_if_ne (pc := 94) B 101 dX8_covers_94 (by decide) (fun h94 => ?_) (fun h94 => ?_)
    · skip
      refine r_iconst (pc := 101) (x := 0) B dX8_covers_101 (by decide) ?_
      refine r_istore_4 (pc := 102) B dX8_covers_102 (by decide) rfl ?_
      refine r_goto (pc := 104) B 148 dX8_covers_104 (by decide) ?_
      refine r_iload_n (pc := 148) B dX8_covers_148 rfl ?_
      refine r_iload (pc := 149) B dX8_covers_149 rfl ?_
      refine r_cSi2 (pc := 151) B KX8_86 (e_least l G _ _ _ _) (by decide) (Nat.le_of_ble_eq_true rfl) dX8_covers_151 ?_
      exact r_iret (pc := 154) B R dX8_covers_154 ⟨by clear B R X; simp only [covF, um]; grind, rfl⟩
    · skip
      refine r_iload_n (pc := 97) B dX8_covers_97 rfl ?_
      refine r_goto (pc := 98) B 102 dX8_covers_98 (by decide) ?_
      refine r_istore_4 (pc := 102) B dX8_covers_102 (by decide) rfl ?_
      refine r_goto (pc := 104) B 148 dX8_covers_104 (by decide) ?_
      refine r_iload_n (pc := 148) B dX8_covers_148 rfl ?_
      refine r_iload (pc := 149) B dX8_covers_149 rfl ?_
      refine r_cSi2 (pc := 151) B KX8_86 (e_least l G _ _ _ _) (by decide) (Nat.le_of_ble_eq_true rfl) dX8_covers_151 ?_
      exact r_iret (pc := 154) B R dX8_covers_154 ⟨by clear B R X; simp only [covF, um]; grind, rfl⟩
  refine r_tsC (pc := 23) B 5 107 dX8_covers_23 (by decide) (by decide) rfl (by decide) (fun h23_5 => ?_) (fun h23_5 => ?_)
  · skip
    refine r_aload_n (pc := 107) B dX8_covers_107 rfl ?_
    refine r_iload_n (pc := 108) B dX8_covers_108 rfl ?_
    refine r_bipush (pc := 109) (x := 7) B dX8_covers_109 (by decide) ?_
    refine r_cVi2 (pc := 111) B KX8_59 (e_its l G _ (u := u) (i := 7) rfl rfl hu (by decide)) rfl rfl (by decide) (Nat.le_of_ble_eq_true rfl) dX8_covers_111 ?_
    refine r_bipush (pc := 114) (x := 50) B dX8_covers_114 (by decide) ?_
    refine r_icmp_ge (pc := 116) B 123 dX8_covers_116 (by decide) (fun h116 => ?_) (fun h116 => ?_)
    · skip
      refine r_iconst (pc := 123) (x := 0) B dX8_covers_123 (by decide) ?_
      refine r_istore_4 (pc := 124) B dX8_covers_124 (by decide) rfl ?_
      refine r_goto (pc := 126) B 148 dX8_covers_126 (by decide) ?_
      refine r_iload_n (pc := 148) B dX8_covers_148 rfl ?_
      refine r_iload (pc := 149) B dX8_covers_149 rfl ?_
      refine r_cSi2 (pc := 151) B KX8_86 (e_least l G _ _ _ _) (by decide) (Nat.le_of_ble_eq_true rfl) dX8_covers_151 ?_
      exact r_iret (pc := 154) B R dX8_covers_154 ⟨by clear B R X; simp only [covF, um]; grind, rfl⟩
    · skip
      refine r_iconst (pc := 119) (x := 4) B dX8_covers_119 (by decide) ?_
      refine r_goto (pc := 120) B 124 dX8_covers_120 (by decide) ?_
      refine r_istore_4 (pc := 124) B dX8_covers_124 (by decide) rfl ?_
      refine r_goto (pc := 126) B 148 dX8_covers_126 (by decide) ?_
      refine r_iload_n (pc := 148) B dX8_covers_148 rfl ?_
      refine r_iload (pc := 149) B dX8_covers_149 rfl ?_
      refine r_cSi2 (pc := 151) B KX8_86 (e_least l G _ _ _ _) (by decide) (Nat.le_of_ble_eq_true rfl) dX8_covers_151 ?_
      exact r_iret (pc := 154) B R dX8_covers_154 ⟨by clear B R X; simp only [covF, um]; grind, rfl⟩
  refine r_tsC (pc := 23) B 6 129 dX8_covers_23 (by decide) (by decide) rfl (by decide) (fun h23_6 => ?_) (fun h23_6 => ?_)
  · skip
    refine r_iload_n (pc := 129) B dX8_covers_129 rfl ?_
    refine r_iconst (pc := 130) (x := 2) B dX8_covers_130 (by decide) ?_
    refine r_idiv (pc := 131) B (by decide) dX8_covers_131 ?_
    refine r_iload_n (pc := 132) B dX8_covers_132 rfl ?_
    refine r_iconst (pc := 133) (x := 4) B dX8_covers_133 (by decide) ?_
    refine r_idiv (pc := 134) B (by decide) dX8_covers_134 ?_
    refine r_iadd (pc := 135) B dX8_covers_135 ?_
    refine r_iconst (pc := 136) (x := 2) B dX8_covers_136 (by decide) ?_
    refine r_iadd (pc := 137) B dX8_covers_137 ?_
    refine r_istore_4 (pc := 138) B dX8_covers_138 (by decide) rfl ?_
    refine r_goto (pc := 140) B 148 dX8_covers_140 (by decide) ?_
    refine r_iload_n (pc := 148) B dX8_covers_148 rfl ?_
    refine r_iload (pc := 149) B dX8_covers_149 rfl ?_
    refine r_cSi2 (pc := 151) B KX8_86 (e_least l G _ _ _ _) (by decide) (Nat.le_of_ble_eq_true rfl) dX8_covers_151 ?_
    exact r_iret (pc := 154) B R dX8_covers_154 ⟨by clear B R X; simp only [covF, um]; grind, rfl⟩
  refine r_tsD (pc := 23) B 143 dX8_covers_23 (by have e0 := ts_in (c := 1) h23_1 rfl; have e1 := ts_in (c := 2) h23_2 rfl; have e2 := ts_in (c := 3) h23_3 rfl; have e3 := ts_in (c := 4) h23_4 rfl; have e4 := ts_in (c := 5) h23_5 rfl; have e5 := ts_in (c := 6) h23_6 rfl; omega) (by decide) ?_
  refine r_iload_n (pc := 143) B dX8_covers_143 rfl ?_
  refine r_iconst (pc := 144) (x := 2) B dX8_covers_144 (by decide) ?_
  refine r_idiv (pc := 145) B (by decide) dX8_covers_145 ?_
  refine r_istore_4 (pc := 146) B dX8_covers_146 (by decide) rfl ?_
  refine r_iload_n (pc := 148) B dX8_covers_148 rfl ?_
  refine r_iload (pc := 149) B dX8_covers_149 rfl ?_
  refine r_cSi2 (pc := 151) B KX8_86 (e_least l G _ _ _ _) (by decide) (Nat.le_of_ble_eq_true rfl) dX8_covers_151 ?_
  exact r_iret (pc := 154) B R dX8_covers_154 ⟨by clear B R X; simp only [covF, um]; grind, rfl⟩
set_option maxHeartbeats 4000000 in
set_option maxRecDepth 20000 in
theorem e_pace (l : Launch) (G : GG) (σ : Sg) {u : Nat} {x : Int32} (hx : x = nI u) (hu : u < 8) : CtI l G mX8_pace 1 shT [.ref (ad G 65), .int x] σ (paceF (σ 66 1) (um (σ 66) u 0)) σ := by
  subst hx
  refine ct_intro (by decide) (Nat.le_of_ble_eq_true rfl) (fun X B R => ?_)
  show V X G shT σ [some (.ref (ad G 65)), some (.int (nI u))] [] 0
  refine r_aload_n (pc := 0) B dX8_pace_0 rfl ?_
  refine r_iload_n (pc := 1) B dX8_pace_1 rfl ?_
  refine r_iconst (pc := 2) (x := 0) B dX8_pace_2 (by decide) ?_
  refine r_cVi2 (pc := 3) B KX8_59 (e_its l G _ (u := u) (i := 0) rfl rfl hu (by decide)) rfl rfl (by decide) (Nat.le_of_ble_eq_true rfl) dX8_pace_3 ?_
  refine r_tsC (pc := 6) B 4 32 dX8_pace_6 (by decide) (by decide) rfl (by decide) (fun h6_4 => ?_) (fun h6_4 => ?_)
  · skip
    refine r_iconst (pc := 32) (x := 2) B dX8_pace_32 (by decide) ?_
    exact r_iret (pc := 33) B R dX8_pace_33 ⟨by clear B R X; simp only [paceF, um, bI]; grind, rfl⟩
  refine r_tsC (pc := 6) B 5 32 dX8_pace_6 (by decide) (by decide) rfl (by decide) (fun h6_5 => ?_) (fun h6_5 => ?_)
  · skip
    refine r_iconst (pc := 32) (x := 2) B dX8_pace_32 (by decide) ?_
    exact r_iret (pc := 33) B R dX8_pace_33 ⟨by clear B R X; simp only [paceF, um, bI]; grind, rfl⟩
  refine r_tsC (pc := 6) B 6 34 dX8_pace_6 (by decide) (by decide) rfl (by decide) (fun h6_6 => ?_) (fun h6_6 => ?_)
  · skip
    refine r_aload_n (pc := 34) B dX8_pace_34 rfl ?_
    refine r_getr (pc := 35) B FX8_7 rfl rfl dX8_pace_35 ?_
    refine r_iconst (pc := 38) (x := 1) B dX8_pace_38 (by decide) ?_
    refine r_iald (pc := 39) B rfl (ix_of 1 rfl) dX8_pace_39 ?_
    refine r_iconst (pc := 40) (x := 2) B dX8_pace_40 (by decide) ?_
    refine r_irem (pc := 41) B (by decide) dX8_pace_41 ?_
    refine r_bz_if_ne (pc := 42) B dX8_pace_42 dX8_pace_45 dX8_pace_46 dX8_pace_49 ?_
    exact r_iret (pc := 50) B R dX8_pace_50 ⟨by clear B R X; simp only [paceF, um, bI]; grind, rfl⟩
  refine r_tsD (pc := 6) B 51 dX8_pace_6 (by have e0 := ts_in (c := 4) h6_4 rfl; have e1 := ts_in (c := 5) h6_5 rfl; have e2 := ts_in (c := 6) h6_6 rfl; omega) (by decide) ?_
  refine r_iconst (pc := 51) (x := 1) B dX8_pace_51 (by decide) ?_
  exact r_iret (pc := 52) B R dX8_pace_52 ⟨by clear B R X; simp only [paceF, um, bI]; grind, rfl⟩
set_option maxHeartbeats 4000000 in
set_option maxRecDepth 20000 in
theorem e_isHome (l : Launch) (G : GG) (σ : Sg) {u : Nat} {x : Int32} (hx : x = nI u) (hu : u < 8) : CtI l G mX8_isHome 1 shT [.ref (ad G 65), .int x] σ (bI (σ 66 (53 + 8 * u + 1) = 16)) σ := by
  subst hx
  refine ct_intro (by decide) (Nat.le_of_ble_eq_true rfl) (fun X B R => ?_)
  show V X G shT σ [some (.ref (ad G 65)), some (.int (nI u))] [] 0
  refine r_aload_n (pc := 0) B dX8_isHome_0 rfl ?_
  refine r_iload_n (pc := 1) B dX8_isHome_1 rfl ?_
  refine r_iconst (pc := 2) (x := 1) B dX8_isHome_2 (by decide) ?_
  refine r_cVi2 (pc := 3) B KX8_59 (e_its l G _ (u := u) (i := 1) rfl rfl hu (by decide)) rfl rfl (by decide) (Nat.le_of_ble_eq_true rfl) dX8_isHome_3 ?_
  refine r_bipush (pc := 6) (x := 16) B dX8_isHome_6 (by decide) ?_
  refine r_bz_icmp_ne (pc := 8) B dX8_isHome_8 dX8_isHome_11 dX8_isHome_12 dX8_isHome_15 ?_
  exact r_zret (pc := 16) B R (by first | decide | exact bI_01 _) dX8_isHome_16 ⟨by clear B R X; grind [bI], rfl⟩
set_option maxHeartbeats 4000000 in
set_option maxRecDepth 20000 in
theorem e_isUnder (l : Launch) (G : GG) (T : List Sh) (σ : Sg) (k a : Int32) : CtI l G mX8_isUnder 0 T [.int k, .int a] σ (bI (a = 0 ∨ k = a ∨ (a = 2 ∧ (k = 3 ∨ k = 4)) ∨ (a = 3 ∧ k = 4) ∨ (a = 1 ∧ k = 6))) σ := by
  refine ct_intro (by decide) (Nat.le_of_ble_eq_true rfl) (fun X B R => ?_)
  show V X G T σ [some (.int k), some (.int a)] [] 0
  refine r_iload_n (pc := 0) B dX8_isUnder_0 rfl ?_
  refine r_if_eq (pc := 1) B 45 dX8_isUnder_1 (by decide) (fun h1 => ?_) (fun h1 => ?_)
  · skip
    refine r_iconst (pc := 45) (x := 1) B dX8_isUnder_45 (by decide) ?_
    refine r_goto (pc := 46) B 50 dX8_isUnder_46 (by decide) ?_
    exact r_zret (pc := 50) B R (by first | decide | exact bI_01 _) dX8_isUnder_50 ⟨by clear B R X; grind [bI], rfl⟩
  · skip
    refine r_iload_n (pc := 4) B dX8_isUnder_4 rfl ?_
    refine r_iload_n (pc := 5) B dX8_isUnder_5 rfl ?_
    refine r_icmp_eq (pc := 6) B 45 dX8_isUnder_6 (by decide) (fun h6 => ?_) (fun h6 => ?_)
    · skip
      refine r_iconst (pc := 45) (x := 1) B dX8_isUnder_45 (by decide) ?_
      refine r_goto (pc := 46) B 50 dX8_isUnder_46 (by decide) ?_
      exact r_zret (pc := 50) B R (by first | decide | exact bI_01 _) dX8_isUnder_50 ⟨by clear B R X; grind [bI], rfl⟩
    · skip
      refine r_iload_n (pc := 9) B dX8_isUnder_9 rfl ?_
      refine r_iconst (pc := 10) (x := 2) B dX8_isUnder_10 (by decide) ?_
      refine r_icmp_ne (pc := 11) B 24 dX8_isUnder_11 (by decide) (fun h11 => ?_) (fun h11 => ?_)
      · skip
        refine r_iload_n (pc := 24) B dX8_isUnder_24 rfl ?_
        refine r_iconst (pc := 25) (x := 3) B dX8_isUnder_25 (by decide) ?_
        refine r_icmp_ne (pc := 26) B 34 dX8_isUnder_26 (by decide) (fun h26 => ?_) (fun h26 => ?_)
        · skip
          refine r_iload_n (pc := 34) B dX8_isUnder_34 rfl ?_
          refine r_iconst (pc := 35) (x := 1) B dX8_isUnder_35 (by decide) ?_
          refine r_icmp_ne (pc := 36) B 49 dX8_isUnder_36 (by decide) (fun h36 => ?_) (fun h36 => ?_)
          · skip
            refine r_iconst (pc := 49) (x := 0) B dX8_isUnder_49 (by decide) ?_
            exact r_zret (pc := 50) B R (by first | decide | exact bI_01 _) dX8_isUnder_50 ⟨by clear B R X; grind [bI], rfl⟩
          · skip
            refine r_iload_n (pc := 39) B dX8_isUnder_39 rfl ?_
            refine r_bipush (pc := 40) (x := 6) B dX8_isUnder_40 (by decide) ?_
            refine r_bz_icmp_ne (pc := 42) B dX8_isUnder_42 dX8_isUnder_45 dX8_isUnder_46 dX8_isUnder_49 ?_
            exact r_zret (pc := 50) B R (by first | decide | exact bI_01 _) dX8_isUnder_50 ⟨by clear B R X; grind [bI], rfl⟩
        · skip
          refine r_iload_n (pc := 29) B dX8_isUnder_29 rfl ?_
          refine r_iconst (pc := 30) (x := 4) B dX8_isUnder_30 (by decide) ?_
          refine r_icmp_eq (pc := 31) B 45 dX8_isUnder_31 (by decide) (fun h31 => ?_) (fun h31 => ?_)
          · skip
            refine r_iconst (pc := 45) (x := 1) B dX8_isUnder_45 (by decide) ?_
            refine r_goto (pc := 46) B 50 dX8_isUnder_46 (by decide) ?_
            exact r_zret (pc := 50) B R (by first | decide | exact bI_01 _) dX8_isUnder_50 ⟨by clear B R X; grind [bI], rfl⟩
          · skip
            refine r_iload_n (pc := 34) B dX8_isUnder_34 rfl ?_
            refine r_iconst (pc := 35) (x := 1) B dX8_isUnder_35 (by decide) ?_
            refine r_icmp_ne (pc := 36) B 49 dX8_isUnder_36 (by decide) (fun h36 => ?_) (fun h36 => ?_)
            · skip
              refine r_iconst (pc := 49) (x := 0) B dX8_isUnder_49 (by decide) ?_
              exact r_zret (pc := 50) B R (by first | decide | exact bI_01 _) dX8_isUnder_50 ⟨by clear B R X; grind [bI], rfl⟩
            · skip
              refine r_iload_n (pc := 39) B dX8_isUnder_39 rfl ?_
              refine r_bipush (pc := 40) (x := 6) B dX8_isUnder_40 (by decide) ?_
              refine r_bz_icmp_ne (pc := 42) B dX8_isUnder_42 dX8_isUnder_45 dX8_isUnder_46 dX8_isUnder_49 ?_
              exact r_zret (pc := 50) B R (by first | decide | exact bI_01 _) dX8_isUnder_50 ⟨by clear B R X; grind [bI], rfl⟩
      · skip
        refine r_iload_n (pc := 14) B dX8_isUnder_14 rfl ?_
        refine r_iconst (pc := 15) (x := 3) B dX8_isUnder_15 (by decide) ?_
        refine r_icmp_eq (pc := 16) B 45 dX8_isUnder_16 (by decide) (fun h16 => ?_) (fun h16 => ?_)
        · skip
          refine r_iconst (pc := 45) (x := 1) B dX8_isUnder_45 (by decide) ?_
          refine r_goto (pc := 46) B 50 dX8_isUnder_46 (by decide) ?_
          exact r_zret (pc := 50) B R (by first | decide | exact bI_01 _) dX8_isUnder_50 ⟨by clear B R X; grind [bI], rfl⟩
        · skip
          refine r_iload_n (pc := 19) B dX8_isUnder_19 rfl ?_
          refine r_iconst (pc := 20) (x := 4) B dX8_isUnder_20 (by decide) ?_
          refine r_icmp_eq (pc := 21) B 45 dX8_isUnder_21 (by decide) (fun h21 => ?_) (fun h21 => ?_)
          · skip
            refine r_iconst (pc := 45) (x := 1) B dX8_isUnder_45 (by decide) ?_
            refine r_goto (pc := 46) B 50 dX8_isUnder_46 (by decide) ?_
            exact r_zret (pc := 50) B R (by first | decide | exact bI_01 _) dX8_isUnder_50 ⟨by clear B R X; grind [bI], rfl⟩
          · skip
            refine r_iload_n (pc := 24) B dX8_isUnder_24 rfl ?_
            refine r_iconst (pc := 25) (x := 3) B dX8_isUnder_25 (by decide) ?_
            refine r_icmp_ne (pc := 26) B 34 dX8_isUnder_26 (by decide) (fun h26 => ?_) (fun h26 => ?_)
            · skip
              refine r_iload_n (pc := 34) B dX8_isUnder_34 rfl ?_
              refine r_iconst (pc := 35) (x := 1) B dX8_isUnder_35 (by decide) ?_
              refine r_icmp_ne (pc := 36) B 49 dX8_isUnder_36 (by decide) (fun h36 => ?_) (fun h36 => ?_)
              · skip
                refine r_iconst (pc := 49) (x := 0) B dX8_isUnder_49 (by decide) ?_
                exact r_zret (pc := 50) B R (by first | decide | exact bI_01 _) dX8_isUnder_50 ⟨by clear B R X; grind [bI], rfl⟩
              · skip
                refine r_iload_n (pc := 39) B dX8_isUnder_39 rfl ?_
                refine r_bipush (pc := 40) (x := 6) B dX8_isUnder_40 (by decide) ?_
                refine r_bz_icmp_ne (pc := 42) B dX8_isUnder_42 dX8_isUnder_45 dX8_isUnder_46 dX8_isUnder_49 ?_
                exact r_zret (pc := 50) B R (by first | decide | exact bI_01 _) dX8_isUnder_50 ⟨by clear B R X; grind [bI], rfl⟩
            · skip
              refine r_iload_n (pc := 29) B dX8_isUnder_29 rfl ?_
              refine r_iconst (pc := 30) (x := 4) B dX8_isUnder_30 (by decide) ?_
              refine r_icmp_eq (pc := 31) B 45 dX8_isUnder_31 (by decide) (fun h31 => ?_) (fun h31 => ?_)
              · skip
                refine r_iconst (pc := 45) (x := 1) B dX8_isUnder_45 (by decide) ?_
                refine r_goto (pc := 46) B 50 dX8_isUnder_46 (by decide) ?_
                exact r_zret (pc := 50) B R (by first | decide | exact bI_01 _) dX8_isUnder_50 ⟨by clear B R X; grind [bI], rfl⟩
              · skip
                refine r_iload_n (pc := 34) B dX8_isUnder_34 rfl ?_
                refine r_iconst (pc := 35) (x := 1) B dX8_isUnder_35 (by decide) ?_
                refine r_icmp_ne (pc := 36) B 49 dX8_isUnder_36 (by decide) (fun h36 => ?_) (fun h36 => ?_)
                · skip
                  refine r_iconst (pc := 49) (x := 0) B dX8_isUnder_49 (by decide) ?_
                  exact r_zret (pc := 50) B R (by first | decide | exact bI_01 _) dX8_isUnder_50 ⟨by clear B R X; grind [bI], rfl⟩
                · skip
                  refine r_iload_n (pc := 39) B dX8_isUnder_39 rfl ?_
                  refine r_bipush (pc := 40) (x := 6) B dX8_isUnder_40 (by decide) ?_
                  refine r_bz_icmp_ne (pc := 42) B dX8_isUnder_42 dX8_isUnder_45 dX8_isUnder_46 dX8_isUnder_49 ?_
                  exact r_zret (pc := 50) B R (by first | decide | exact bI_01 _) dX8_isUnder_50 ⟨by clear B R X; grind [bI], rfl⟩

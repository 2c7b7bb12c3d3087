/-! ranges of the row; one that goes on -/
def WR (w : Nat → Int32) : Prop := withinP (w 3) 99 ∧ withinP (w 4) 99 ∧ (∀ k, k < 16 → withinP (w (5 + k)) 2 ∧ withinP (w (21 + k)) 99 ∧ withinP (w (37 + k)) 1) ∧ ∀ u i, u < 8 → i < 8 → withinP (w (53 + 8 * u + i)) (gK i)
theorem wi_mono {x : Int32} {a b : Nat} (ha : a ≤ b) (hb : b < 2 ^ 31) (h : withinP x (nI a)) : withinP x (nI b) := by
  obtain ⟨c, hc, rfl⟩ := wi_nI (by omega) h
  exact nI_wi hb (by omega)
theorem wi_01 {x : Int32} (h : withinP x 1) : x = 0 ∨ x = 1 := by
  obtain ⟨c, hc, rfl⟩ := wi_nI (g := 1) (by decide) h
  rcases Nat.le_one_iff_eq_zero_or_eq_one.mp hc with rfl | rfl
  · exact Or.inl rfl
  · exact Or.inr rfl
abbrev Wd (w : Nat → Int32) (j : Nat) : Int32 := windF (fun k => w (21 + k)) (fun k => w (37 + k)) (w 4) (w 1) j
abbrev Hd (w : Nat → Int32) (u j : Nat) : Int32 := hdG (fun k => w (5 + k)) (fun k => w (21 + k)) (fun k => w (37 + k)) (w 4) (w 1) (um w u) j
abbrev Go (w : Nat → Int32) (u j : Nat) : Prop := goG (fun k => w (5 + k)) (fun k => w (21 + k)) (fun k => w (37 + k)) (w 4) (w 1) (um w u) j
abbrev Ot (w : Nat → Int32) (u j : Nat) : Int32 := otG (fun k => w (5 + k)) (fun k => w (21 + k)) (fun k => w (37 + k)) (w 4) (w 1) (um w u) j
def gCov (w : Nat → Int32) (u j : Nat) : Int32 := if Hd w u j = 3 ∨ Ot w u j = 1 then 0 else covF (w 3) (w 1) (um w u 0) (um w u 7)
def gWet (w : Nat → Int32) (u j : Nat) : Int32 := if w (37 + j) = 1 then w (53 + 8 * u + 7) else mn 99999 (w (53 + 8 * u + 7) + (w 3 - gCov w u j))
def gAt (w : Nat → Int32) (u j : Nat) : Int32 := if Ot w u j = 0 then mn 16 (nI j + paceF (w 1) (um w u 0)) else nI j
def g2 (w : Nat → Int32) (u j : Nat) : Nat → Int32 := upd w (53 + 8 * u + 2) (Hd w u j)
def g4 (w : Nat → Int32) (u j : Nat) : Nat → Int32 := if Go w u j then upd (upd (g2 w u j) (53 + 8 * u + 6) (mn 999 (w (53 + 8 * u + 6) + 1))) (53 + 8 * u + 4) (mx 0 (w (53 + 8 * u + 4) - 1)) else g2 w u j
def g5 (w : Nat → Int32) (u j : Nat) : Nat → Int32 := upd (g4 w u j) (53 + 8 * u + 5) (Ot w u j)
def g7 (w : Nat → Int32) (u j : Nat) : Nat → Int32 := upd (g5 w u j) (53 + 8 * u + 7) (gWet w u j)
def g1 (w : Nat → Int32) (u j : Nat) : Nat → Int32 := upd (g7 w u j) (53 + 8 * u + 1) (gAt w u j)
theorem g2_ne {w : Nat → Int32} {u j k : Nat} (h : k ≠ 53 + 8 * u + 2) : g2 w u j k = w k := by simp [g2, upd, h]
theorem g4_ne {w : Nat → Int32} {u j k : Nat} (h : k ≠ 53 + 8 * u + 2) (h4 : k ≠ 53 + 8 * u + 4) (h6 : k ≠ 53 + 8 * u + 6) : g4 w u j k = w k := by
  unfold g4
  split
  · simp [upd, h4, h6, g2_ne h]
  · exact g2_ne h
theorem g5_ne {w : Nat → Int32} {u j k : Nat} (h : k ≠ 53 + 8 * u + 2) (h4 : k ≠ 53 + 8 * u + 4) (h6 : k ≠ 53 + 8 * u + 6) (h5 : k ≠ 53 + 8 * u + 5) : g5 w u j k = w k := by
  unfold g5
  rw [upd, if_neg h5]
  exact g4_ne h h4 h6
theorem g7_ne {w : Nat → Int32} {u j k : Nat} (h : k ≠ 53 + 8 * u + 2) (h4 : k ≠ 53 + 8 * u + 4) (h6 : k ≠ 53 + 8 * u + 6) (h5 : k ≠ 53 + 8 * u + 5) (h7 : k ≠ 53 + 8 * u + 7) : g7 w u j k = w k := by
  unfold g7
  rw [upd, if_neg h7]
  exact g5_ne h h4 h6 h5
theorem wd_cg {w x : Nat → Int32} {j : Nat} (h1 : x (21 + j) = w (21 + j)) (h2 : x (37 + j) = w (37 + j)) (h3 : x 4 = w 4) (h4 : x 1 = w 1) : Wd x j = Wd w j := by
  simp only [Wd, windF, h1, h2, h3, h4]
theorem st_cg {a b : Nat → Int32} (h0 : a 0 = b 0) (h4 : a 4 = b 4) (h7 : a 7 = b 7) : stiffF a = stiffF b := by
  simp only [stiffF, h0, h4, h7]
theorem hd_rg {w : Nat → Int32} {u j : Nat} (hu : u < 8) (hj : j < 16) (hW : WR w) : withinP (Hd w u j) 3 := by
  have hf := (hW.2.2.1 j hj).1
  have hn : jn j < 16 := by unfold jn; split <;> omega
  have hf2 := (hW.2.2.1 (jn j) hn).1
  have hh := hW.2.2.2 u 2 hu (by omega)
  simp only [Hd, hdG, hbF]
  split
  · exact wi_mono (a := 2) (b := 3) (by decide) (by decide) hf
  · split
    · exact wi_mono (a := 2) (b := 3) (by decide) (by decide) hf2
    · split
      · split
        · exact wi_mono (a := 2) (b := 3) (by decide) (by decide) hf
        · exact ⟨by decide, by decide⟩
      · exact hh
theorem ot_01 {w : Nat → Int32} {u j : Nat} (hu : u < 8) (hW : WR w) : Ot w u j = 0 ∨ Ot w u j = 1 := by
  have ho : um w u 5 = 0 ∨ um w u 5 = 1 := wi_01 (hW.2.2.2 u 5 hu (by omega))
  simp only [Ot, otG, outF]
  split
  · split
    · exact Or.inl rfl
    · exact ho
  · split
    · exact Or.inr rfl
    · exact ho
theorem i32_as (a b c : Int32) : a + (b - c) = a + b - c := by rw [Int32.sub_eq_add_neg, Int32.sub_eq_add_neg, Int32.add_assoc]
theorem goV_at {w : Nat → Int32} {u j : Nat} (hj : j < 16) (hp : w (53 + 8 * u + 1) = nI j) : goV w u = putU w u (goW w u j) := by
  unfold goV
  rw [if_pos (by rw [hp]; exact nI_stepP hj), hp, nI_clamp (by omega)]
theorem gs_at {w : Nat → Int32} {u j : Nat} (hj : j < 16) (hp : w (53 + 8 * u + 1) = nI j) : gsP w u ↔ Go w u j := by
  unfold gsP
  rw [hp, nI_clamp (by omega)]
  exact ⟨fun q => q.2, fun q => ⟨nI_stepP hj, q⟩⟩
theorem g1_go {w : Nat → Int32} {u j : Nat} (hu : u < 8) (hj : j < 16) (hp : w (53 + 8 * u + 1) = nI j) (hW : WR w) : g1 w u j = goV w u := by
  rw [goV_at hj hp]
  funext k
  unfold putU
  split
  · rename_i hk
    obtain ⟨i, rfl⟩ : ∃ i, k = 53 + 8 * u + i := ⟨k - (53 + 8 * u), by omega⟩
    have hi : i < 8 := by omega
    rw [show 53 + 8 * u + i - (53 + 8 * u) = i by omega]
    have hro := wi_01 (hW.2.2.1 j hj).2.2
    have e1 : um w u 1 = nI j := hp
    match i, hi with
    | 0, _ => rw [g1, upd, if_neg (by omega), g7_ne (by omega) (by omega) (by omega) (by omega) (by omega)]; rfl
    | 1, _ => rw [g1, upd, if_pos rfl]; show gAt w u j = goU _ _ _ _ _ _ _ _ 1; simp only [gAt, goU, if_pos, e1]
    | 2, _ => rw [g1, upd, if_neg (by omega), g7, upd, if_neg (by omega), g5, upd, if_neg (by omega), g4]; split <;> simp [upd, g2, goW, goU]
    | 3, _ => rw [g1, upd, if_neg (by omega), g7_ne (by omega) (by omega) (by omega) (by omega) (by omega)]; rfl
    | 4, _ =>
      rw [g1, upd, if_neg (by omega), g7, upd, if_neg (by omega), g5, upd, if_neg (by omega), g4]
      by_cases q : Go w u j
      · rw [if_pos q, upd, if_pos rfl]; simp only [goW, goU, if_pos q]; rfl
      · rw [if_neg q, g2_ne (by omega)]; simp only [goW, goU, if_neg q]; rfl
    | 5, _ => rw [g1, upd, if_neg (by omega), g7, upd, if_neg (by omega), g5, upd, if_pos rfl]; rfl
    | 6, _ =>
      rw [g1, upd, if_neg (by omega), g7, upd, if_neg (by omega), g5, upd, if_neg (by omega), g4]
      by_cases q : Go w u j
      · rw [if_pos q, upd, if_neg (by omega), upd, if_pos rfl]; simp only [goW, goU, if_pos q]; rfl
      · rw [if_neg q, g2_ne (by omega)]; simp only [goW, goU, if_neg q]; rfl
    | 7, _ =>
      rw [g1, upd, if_neg (by omega), g7, upd, if_pos rfl]
      show gWet w u j = goU _ _ _ _ _ _ _ _ 7
      rw [gWet, i32_as]
      rcases hro with q | q
      · rw [if_neg (by rw [q]; decide)]; simp only [goU, if_pos q]; rfl
      · rw [if_pos q]; simp only [goU]; rw [if_neg (show ¬ w (37 + j) = 0 by rw [q]; decide)]; rfl
  · rename_i hk
    rw [g1, upd, if_neg (by omega), g7_ne (by omega) (by omega) (by omega) (by omega) (by omega)]
theorem bI_cg {p q : Prop} [Decidable p] [Decidable q] (h : p ↔ q) : bI p = bI q := by unfold bI; simp [h]
theorem bI_nz {x : Int32} (h : x = 0 ∨ x = 1) : bI (¬ x = 0) = x := by rcases h with rfl | rfl <;> rfl

set_option maxHeartbeats 4000000 in
set_option maxRecDepth 20000 in
theorem e_heldBy (l : Launch) (G : GG) (σ : Sg) {u j : Nat} {x : Int32} (hx : x = nI u) (hu : u < 8) (hj : j < 16) (hp : σ 66 (53 + 8 * u + 1) = nI j) (hW : WR (σ 66)) : CtI l G mX8_heldBy 3 shT [.ref (ad G 65), .int x] σ (Hd (σ 66) u j) σ := by
  subst hx
  have hn : jn j < 16 := by unfold jn; split <;> omega
  have hf := (hW.2.2.1 j hj).1
  refine ct_intro (by decide) (Nat.le_of_ble_eq_true rfl) (fun X B R => ?_)
  show V X G shT σ [some (.ref (ad G 65)), some (.int (nI u)), none] [] 0
  refine r_aload_n (pc := 0) B dX8_heldBy_0 rfl ?_
  refine r_iload_n (pc := 1) B dX8_heldBy_1 rfl ?_
  refine r_iconst (pc := 2) (x := 1) B dX8_heldBy_2 (by decide) ?_
  refine r_cVi2 (pc := 3) B KX8_59 (e_its l G _ (u := u) (i := 1) rfl rfl hu (by decide)) rfl rfl (by decide) (Nat.le_of_ble_eq_true rfl) dX8_heldBy_3 ?_
  rw [hp]
  refine r_istore_2 (pc := 6) B dX8_heldBy_6 (by decide) rfl ?_
  refine r_aload_n (pc := 7) B dX8_heldBy_7 rfl ?_
  refine r_iload_n (pc := 8) B dX8_heldBy_8 rfl ?_
  refine r_iconst (pc := 9) (x := 3) B dX8_heldBy_9 (by decide) ?_
  refine r_cVi2 (pc := 10) B KX8_59 (e_its l G _ (u := u) (i := 3) rfl rfl hu (by decide)) rfl rfl (by decide) (Nat.le_of_ble_eq_true rfl) dX8_heldBy_10 ?_
  refine r_tsC (pc := 13) B 1 40 dX8_heldBy_13 (by decide) (by decide) rfl (by decide) (fun h13_1 => ?_) (fun h13_1 => ?_)
  · skip
    refine r_aload_n (pc := 40) B dX8_heldBy_40 rfl ?_
    refine r_getr (pc := 41) B FX8_7 rfl rfl dX8_heldBy_41 ?_
    refine r_iconst (pc := 44) (x := 5) B dX8_heldBy_44 (by decide) ?_
    refine r_iload_n (pc := 45) B dX8_heldBy_45 rfl ?_
    refine r_iadd (pc := 46) B dX8_heldBy_46 ?_
    refine r_iald (pc := 47) B rfl (ix_eq (pl_nI (n := 5) rfl) (by omega) (by decide)) dX8_heldBy_47 ?_
    exact r_iret (pc := 48) B R dX8_heldBy_48 ⟨by clear B R X hf hW; simp only [Hd, hdG, hbF, um, bI]; grind, rfl⟩
  refine r_tsC (pc := 13) B 2 49 dX8_heldBy_13 (by decide) (by decide) rfl (by decide) (fun h13_2 => ?_) (fun h13_2 => ?_)
  · skip
    refine r_aload_n (pc := 49) B dX8_heldBy_49 rfl ?_
    refine r_getr (pc := 50) B FX8_7 rfl rfl dX8_heldBy_50 ?_
    refine r_iconst (pc := 53) (x := 5) B dX8_heldBy_53 (by decide) ?_
    refine r_iload_n (pc := 54) B dX8_heldBy_54 rfl ?_
    refine r_iconst (pc := 55) (x := 1) B dX8_heldBy_55 (by decide) ?_
    refine r_iadd (pc := 56) B dX8_heldBy_56 ?_
    refine r_bipush (pc := 57) (x := 15) B dX8_heldBy_57 (by decide) ?_
    refine r_cSi2 (pc := 59) B KX8_86 (e_least l G _ _ _ _) (by decide) (Nat.le_of_ble_eq_true rfl) dX8_heldBy_59 ?_
    rw [mn_comm, mn_next hj]
    refine r_iadd (pc := 62) B dX8_heldBy_62 ?_
    refine r_iald (pc := 63) B rfl (ix_eq (pl_nI (n := 5) rfl) (by omega) (by decide)) dX8_heldBy_63 ?_
    exact r_iret (pc := 64) B R dX8_heldBy_64 ⟨by clear B R X hf hW; simp only [Hd, hdG, hbF, um, bI]; grind, rfl⟩
  refine r_tsC (pc := 13) B 3 65 dX8_heldBy_13 (by decide) (by decide) rfl (by decide) (fun h13_3 => ?_) (fun h13_3 => ?_)
  · skip
    refine r_aload_n (pc := 65) B dX8_heldBy_65 rfl ?_
    refine r_iload_n (pc := 66) B dX8_heldBy_66 rfl ?_
    refine r_cVi1 (pc := 67) B KX8_64 (e_wind l G _ rfl hj) rfl rfl (by decide) (Nat.le_of_ble_eq_true rfl) dX8_heldBy_67 ?_
    refine r_aload_n (pc := 70) B dX8_heldBy_70 rfl ?_
    refine r_iload_n (pc := 71) B dX8_heldBy_71 rfl ?_
    refine r_iload_n (pc := 72) B dX8_heldBy_72 rfl ?_
    refine r_aload_n (pc := 73) B dX8_heldBy_73 rfl ?_
    refine r_getr (pc := 74) B FX8_7 rfl rfl dX8_heldBy_74 ?_
    refine r_iconst (pc := 77) (x := 5) B dX8_heldBy_77 (by decide) ?_
    refine r_iload_n (pc := 78) B dX8_heldBy_78 rfl ?_
    refine r_iadd (pc := 79) B dX8_heldBy_79 ?_
    refine r_iald (pc := 80) B rfl (ix_eq (pl_nI (n := 5) rfl) (by omega) (by decide)) dX8_heldBy_80 ?_
    refine r_cVi3 (pc := 81) B KX8_106 (e_bearsOn l G _ rfl rfl hu hj (wi_mono (a := 2) (b := 3) (by decide) (by decide) hf) hf) rfl rfl (by decide) (Nat.le_of_ble_eq_true rfl) dX8_heldBy_81 ?_
    refine r_icmp_le (pc := 84) B 91 dX8_heldBy_84 (by decide) (fun h84 => ?_) (fun h84 => ?_)
    · skip
      refine r_aload_n (pc := 91) B dX8_heldBy_91 rfl ?_
      refine r_getr (pc := 92) B FX8_7 rfl rfl dX8_heldBy_92 ?_
      refine r_iconst (pc := 95) (x := 5) B dX8_heldBy_95 (by decide) ?_
      refine r_iload_n (pc := 96) B dX8_heldBy_96 rfl ?_
      refine r_iadd (pc := 97) B dX8_heldBy_97 ?_
      refine r_iald (pc := 98) B rfl (ix_eq (pl_nI (n := 5) rfl) (by omega) (by decide)) dX8_heldBy_98 ?_
      exact r_iret (pc := 99) B R dX8_heldBy_99 ⟨by clear B R X hf hW; simp only [Hd, hdG, hbF, um, bI]; grind, rfl⟩
    · skip
      refine r_iconst (pc := 87) (x := 3) B dX8_heldBy_87 (by decide) ?_
      refine r_goto (pc := 88) B 99 dX8_heldBy_88 (by decide) ?_
      exact r_iret (pc := 99) B R dX8_heldBy_99 ⟨by clear B R X hf hW; simp only [Hd, hdG, hbF, um, bI]; grind, rfl⟩
  refine r_tsD (pc := 13) B 100 dX8_heldBy_13 (by have e0 := ts_in (c := 1) h13_1 rfl; have e1 := ts_in (c := 2) h13_2 rfl; have e2 := ts_in (c := 3) h13_3 rfl; omega) (by decide) ?_
  refine r_aload_n (pc := 100) B dX8_heldBy_100 rfl ?_
  refine r_iload_n (pc := 101) B dX8_heldBy_101 rfl ?_
  refine r_iconst (pc := 102) (x := 2) B dX8_heldBy_102 (by decide) ?_
  refine r_cVi2 (pc := 103) B KX8_59 (e_its l G _ (u := u) (i := 2) rfl rfl hu (by decide)) rfl rfl (by decide) (Nat.le_of_ble_eq_true rfl) dX8_heldBy_103 ?_
  exact r_iret (pc := 106) B R dX8_heldBy_106 ⟨by clear B R X hf hW; simp only [Hd, hdG, hbF, um, bI]; grind, rfl⟩
set_option maxHeartbeats 4000000 in
set_option maxRecDepth 20000 in
theorem e_goesOn (l : Launch) (G : GG) (σ : Sg) {u j : Nat} {x : Int32} (hx : x = nI u) (hu : u < 8) (hj : j < 16) (hp : σ 66 (53 + 8 * u + 1) = nI j) (hW : WR (σ 66)) : CtI l G mX8_goesOn 4 shT [.ref (ad G 65), .int x] σ (bI (gsP (σ 66) u)) (sR σ (goV (σ 66) u)) := by
  subst hx
  have hf := (hW.2.2.1 j hj).1
  have hh := hd_rg (w := σ 66) hu hj hW
  have h01 := ot_01 (w := σ 66) (j := j) hu hW
  rw [bI_cg (gs_at hj hp), ← g1_go hu hj hp hW]
  refine ct_intro (by decide) (Nat.le_of_ble_eq_true rfl) (fun X B R => ?_)
  show V X G shT σ [some (.ref (ad G 65)), some (.int (nI u)), none, none, none, none, none, none] [] 0
  refine r_aload_n (pc := 0) B dX8_goesOn_0 rfl ?_
  refine r_iload_n (pc := 1) B dX8_goesOn_1 rfl ?_
  refine r_iconst (pc := 2) (x := 1) B dX8_goesOn_2 (by decide) ?_
  refine r_cVi2 (pc := 3) B KX8_59 (e_its l G _ (u := u) (i := 1) rfl rfl hu (by decide)) rfl rfl (by decide) (Nat.le_of_ble_eq_true rfl) dX8_goesOn_3 ?_
  rw [hp]
  refine r_istore_2 (pc := 6) B dX8_goesOn_6 (by decide) rfl ?_
  refine r_aload_n (pc := 7) B dX8_goesOn_7 rfl ?_
  refine r_iload_n (pc := 8) B dX8_goesOn_8 rfl ?_
  refine r_cVi1 (pc := 9) B KX8_110 (e_heldBy l G _ rfl hu hj hp hW) rfl rfl (by decide) (Nat.le_of_ble_eq_true rfl) dX8_goesOn_9 ?_
  refine r_istore_3 (pc := 12) B dX8_goesOn_12 (by decide) rfl ?_
  refine r_aload_n (pc := 13) B dX8_goesOn_13 rfl ?_
  refine r_getr (pc := 14) B FX8_7 rfl rfl dX8_goesOn_14 ?_
  refine r_iload_n (pc := 17) B dX8_goesOn_17 rfl ?_
  refine r_iconst (pc := 18) (x := 2) B dX8_goesOn_18 (by decide) ?_
  refine r_cSi2 (pc := 19) B KX8_70 (e_at l G _ _ (u := u) (i := 2) rfl rfl hu (by decide)) (by decide) (Nat.le_of_ble_eq_true rfl) dX8_goesOn_19 ?_
  refine r_iload_n (pc := 22) B dX8_goesOn_22 rfl ?_
  refine r_iast (pc := 23) B rfl (ix_nI (by omega) (by decide)) dX8_goesOn_23 ?_
  rw [st2_66]
  change V X G shT (sR σ (g2 (σ 66) u j)) _ _ _
  refine r_aload_n (pc := 24) B dX8_goesOn_24 rfl ?_
  refine r_iload_n (pc := 25) B dX8_goesOn_25 rfl ?_
  refine r_iconst (pc := 26) (x := 5) B dX8_goesOn_26 (by decide) ?_
  refine r_cVi2 (pc := 27) B KX8_59 (e_its l G _ (u := u) (i := 5) rfl rfl hu (by decide)) rfl rfl (by decide) (Nat.le_of_ble_eq_true rfl) dX8_goesOn_27 ?_
  rw [show sR σ (g2 (σ 66) u j) 66 (53 + 8 * u + 5) = σ 66 (53 + 8 * u + 5) from g2_ne (w := σ 66) (u := u) (j := j) (k := 53 + 8 * u + 5) (by omega)]
  refine r_iconst (pc := 30) (x := 1) B dX8_goesOn_30 (by decide) ?_
  refine r_bz_icmp_ne (pc := 31) B dX8_goesOn_31 dX8_goesOn_34 dX8_goesOn_35 dX8_goesOn_38 ?_
  refine r_istore_4 (pc := 39) B dX8_goesOn_39 (by decide) rfl ?_
  have hJ71 : ∀ g : Int32, g = bI (Go (σ 66) u j) → V X G shT (sR σ (g2 (σ 66) u j)) [some (.ref (ad G 65)), some (.int (nI u)), some (.int (nI j)), some (.int (Hd (σ 66) u j)), some (.int (bI (σ 66 (53 + 8 * u + 5) = 1))), none, none, none] [.int g] 71 := by
    intro g hg
    refine r_istore_5 (pc := 71) B dX8_goesOn_71 (by decide) rfl ?_
    have hJ100 : ∀ i : Int32, i = Ot (σ 66) u j → V X G shT (sR σ (g2 (σ 66) u j)) [some (.ref (ad G 65)), some (.int (nI u)), some (.int (nI j)), some (.int (Hd (σ 66) u j)), some (.int (bI (σ 66 (53 + 8 * u + 5) = 1))), some (.int g), none, none] [.int i] 100 := by
      intro i hi
      refine r_istore_6 (pc := 100) B dX8_goesOn_100 (by decide) rfl ?_
      have hJ155 : V X G shT (sR σ (g4 (σ 66) u j)) [some (.ref (ad G 65)), some (.int (nI u)), some (.int (nI j)), some (.int (Hd (σ 66) u j)), some (.int (bI (σ 66 (53 + 8 * u + 5) = 1))), some (.int g), some (.int i), none] [] 155 := by
        skip
        refine r_aload_n (pc := 155) B dX8_goesOn_155 rfl ?_
        refine r_getr (pc := 156) B FX8_7 rfl rfl dX8_goesOn_156 ?_
        refine r_iload_n (pc := 159) B dX8_goesOn_159 rfl ?_
        refine r_iconst (pc := 160) (x := 5) B dX8_goesOn_160 (by decide) ?_
        refine r_cSi2 (pc := 161) B KX8_70 (e_at l G _ _ (u := u) (i := 5) rfl rfl hu (by decide)) (by decide) (Nat.le_of_ble_eq_true rfl) dX8_goesOn_161 ?_
        refine r_iload (pc := 164) B dX8_goesOn_164 rfl ?_
        refine r_bz_if_eq (pc := 166) B dX8_goesOn_166 dX8_goesOn_169 dX8_goesOn_170 dX8_goesOn_173 ?_
        rw [bI_nz (by rw [hi]; exact h01), hi]
        refine r_iast (pc := 174) B rfl (ix_nI (by omega) (by decide)) dX8_goesOn_174 ?_
        rw [st2_66, sR_sR, sR_66]
        change V X G shT (sR σ (g5 (σ 66) u j)) _ _ _
        refine r_aload_n (pc := 175) B dX8_goesOn_175 rfl ?_
        refine r_getr (pc := 176) B FX8_7 rfl rfl dX8_goesOn_176 ?_
        refine r_iconst (pc := 179) (x := 3) B dX8_goesOn_179 (by decide) ?_
        refine r_iald (pc := 180) B rfl (ix_of 3 rfl) dX8_goesOn_180 ?_
        rw [show sR σ (g5 (σ 66) u j) 66 (3) = σ 66 (3) from g5_ne (w := σ 66) (u := u) (j := j) (k := 3) (by omega) (by omega) (by omega) (by omega)]
        have hJ200 : ∀ c : Int32, c = gCov (σ 66) u j → V X G shT (sR σ (g5 (σ 66) u j)) [some (.ref (ad G 65)), some (.int (nI u)), some (.int (nI j)), some (.int (Hd (σ 66) u j)), some (.int (bI (σ 66 (53 + 8 * u + 5) = 1))), some (.int g), some (.int (Ot (σ 66) u j)), none] [.int c, .int (σ 66 3)] 200 := by
          intro c hc
          refine r_isub (pc := 200) B dX8_goesOn_200 ?_
          refine r_istore_7 (pc := 201) B dX8_goesOn_201 (by decide) rfl ?_
          refine r_aload_n (pc := 203) B dX8_goesOn_203 rfl ?_
          refine r_getr (pc := 204) B FX8_7 rfl rfl dX8_goesOn_204 ?_
          refine r_iload_n (pc := 207) B dX8_goesOn_207 rfl ?_
          refine r_bipush (pc := 208) (x := 7) B dX8_goesOn_208 (by decide) ?_
          refine r_cSi2 (pc := 210) B KX8_70 (e_at l G _ _ (u := u) (i := 7) rfl rfl hu (by decide)) (by decide) (Nat.le_of_ble_eq_true rfl) dX8_goesOn_210 ?_
          have hJ251 : ∀ v : Int32, v = gWet (σ 66) u j → V X G shT (sR σ (g5 (σ 66) u j)) [some (.ref (ad G 65)), some (.int (nI u)), some (.int (nI j)), some (.int (Hd (σ 66) u j)), some (.int (bI (σ 66 (53 + 8 * u + 5) = 1))), some (.int g), some (.int (Ot (σ 66) u j)), some (.int (σ 66 3 - c))] [.int v, .int (nI (53 + 8 * u + 7)), .ref (ad G 66)] 251 := by
            intro v hv
            refine r_iast (pc := 251) B rfl (ix_nI (by omega) (by decide)) dX8_goesOn_251 ?_
            rw [st2_66, sR_sR, sR_66, hv]
            change V X G shT (sR σ (g7 (σ 66) u j)) _ _ _
            refine r_aload_n (pc := 252) B dX8_goesOn_252 rfl ?_
            refine r_getr (pc := 253) B FX8_7 rfl rfl dX8_goesOn_253 ?_
            refine r_iload_n (pc := 256) B dX8_goesOn_256 rfl ?_
            refine r_iconst (pc := 257) (x := 1) B dX8_goesOn_257 (by decide) ?_
            refine r_cSi2 (pc := 258) B KX8_70 (e_at l G _ _ (u := u) (i := 1) rfl rfl hu (by decide)) (by decide) (Nat.le_of_ble_eq_true rfl) dX8_goesOn_258 ?_
            have hJ282 : ∀ v : Int32, v = gAt (σ 66) u j → V X G shT (sR σ (g7 (σ 66) u j)) [some (.ref (ad G 65)), some (.int (nI u)), some (.int (nI j)), some (.int (Hd (σ 66) u j)), some (.int (bI (σ 66 (53 + 8 * u + 5) = 1))), some (.int g), some (.int (Ot (σ 66) u j)), some (.int (σ 66 3 - c))] [.int v, .int (nI (53 + 8 * u + 1)), .ref (ad G 66)] 282 := by
              intro v hv
              refine r_iast (pc := 282) B rfl (ix_nI (by omega) (by decide)) dX8_goesOn_282 ?_
              rw [st2_66, sR_sR, sR_66, hv]
              change V X G shT (sR σ (g1 (σ 66) u j)) _ _ _
              refine r_iload (pc := 283) B dX8_goesOn_283 rfl ?_
              exact r_zret (pc := 285) B R (by rw [hg]; exact bI_01 _) dX8_goesOn_285 ⟨by rw [hg], rfl⟩
            refine r_iload (pc := 261) B dX8_goesOn_261 rfl ?_
            refine r_if_eq (pc := 263) B 270 dX8_goesOn_263 (by decide) (fun h263 => ?_) (fun h263 => ?_)
            · skip
              refine r_bipush (pc := 270) (x := 16) B dX8_goesOn_270 (by decide) ?_
              refine r_iload_n (pc := 272) B dX8_goesOn_272 rfl ?_
              refine r_aload_n (pc := 273) B dX8_goesOn_273 rfl ?_
              refine r_iload_n (pc := 274) B dX8_goesOn_274 rfl ?_
              refine r_cVi1 (pc := 275) B KX8_97 (e_pace l G _ rfl hu) rfl rfl (by decide) (Nat.le_of_ble_eq_true rfl) dX8_goesOn_275 ?_
              rw [show sR σ (g7 (σ 66) u j) 66 (1) = σ 66 (1) from g7_ne (w := σ 66) (u := u) (j := j) (k := 1) (by omega) (by omega) (by omega) (by omega) (by omega), show um (sR σ (g7 (σ 66) u j) 66) u 0 = um (σ 66) u 0 from g7_ne (by omega) (by omega) (by omega) (by omega) (by omega)]
              refine r_iadd (pc := 278) B dX8_goesOn_278 ?_
              refine r_cSi2 (pc := 279) B KX8_86 (e_least l G _ _ _ _) (by decide) (Nat.le_of_ble_eq_true rfl) dX8_goesOn_279 ?_
              exact hJ282 _ (by unfold gAt; first | (rw [if_pos h263]) | (rw [if_neg h263]))
            · skip
              refine r_iload_n (pc := 266) B dX8_goesOn_266 rfl ?_
              refine r_goto (pc := 267) B 282 dX8_goesOn_267 (by decide) ?_
              exact hJ282 _ (by unfold gAt; first | (rw [if_pos h263]) | (rw [if_neg h263]))
          refine r_aload_n (pc := 213) B dX8_goesOn_213 rfl ?_
          refine r_getr (pc := 214) B FX8_7 rfl rfl dX8_goesOn_214 ?_
          refine r_bipush (pc := 217) (x := 37) B dX8_goesOn_217 (by decide) ?_
          refine r_iload_n (pc := 219) B dX8_goesOn_219 rfl ?_
          refine r_iadd (pc := 220) B dX8_goesOn_220 ?_
          refine r_iald (pc := 221) B rfl (ix_eq (pl_nI (n := 37) rfl) (by omega) (by decide)) dX8_goesOn_221 ?_
          rw [show sR σ (g5 (σ 66) u j) 66 (37 + j) = σ 66 (37 + j) from g5_ne (w := σ 66) (u := u) (j := j) (k := 37 + j) (by omega) (by omega) (by omega) (by omega)]
          refine r_iconst (pc := 222) (x := 1) B dX8_goesOn_222 (by decide) ?_
          refine r_icmp_ne (pc := 223) B 236 dX8_goesOn_223 (by decide) (fun h223 => ?_) (fun h223 => ?_)
          · skip
            refine r_ldc (pc := 236) B q914 dX8_goesOn_236 ?_
            refine r_aload_n (pc := 238) B dX8_goesOn_238 rfl ?_
            refine r_iload_n (pc := 239) B dX8_goesOn_239 rfl ?_
            refine r_bipush (pc := 240) (x := 7) B dX8_goesOn_240 (by decide) ?_
            refine r_cVi2 (pc := 242) B KX8_59 (e_its l G _ (u := u) (i := 7) rfl rfl hu (by decide)) rfl rfl (by decide) (Nat.le_of_ble_eq_true rfl) dX8_goesOn_242 ?_
            rw [show sR σ (g5 (σ 66) u j) 66 (53 + 8 * u + 7) = σ 66 (53 + 8 * u + 7) from g5_ne (w := σ 66) (u := u) (j := j) (k := 53 + 8 * u + 7) (by omega) (by omega) (by omega) (by omega)]
            refine r_iload (pc := 245) B dX8_goesOn_245 rfl ?_
            refine r_iadd (pc := 247) B dX8_goesOn_247 ?_
            refine r_cSi2 (pc := 248) B KX8_86 (e_least l G _ _ _ _) (by decide) (Nat.le_of_ble_eq_true rfl) dX8_goesOn_248 ?_
            exact hJ251 _ (by unfold gWet; first | (rw [if_pos h223]) | (rw [hc, if_neg h223]))
          · skip
            refine r_aload_n (pc := 226) B dX8_goesOn_226 rfl ?_
            refine r_iload_n (pc := 227) B dX8_goesOn_227 rfl ?_
            refine r_bipush (pc := 228) (x := 7) B dX8_goesOn_228 (by decide) ?_
            refine r_cVi2 (pc := 230) B KX8_59 (e_its l G _ (u := u) (i := 7) rfl rfl hu (by decide)) rfl rfl (by decide) (Nat.le_of_ble_eq_true rfl) dX8_goesOn_230 ?_
            rw [show sR σ (g5 (σ 66) u j) 66 (53 + 8 * u + 7) = σ 66 (53 + 8 * u + 7) from g5_ne (w := σ 66) (u := u) (j := j) (k := 53 + 8 * u + 7) (by omega) (by omega) (by omega) (by omega)]
            refine r_goto (pc := 233) B 251 dX8_goesOn_233 (by decide) ?_
            exact hJ251 _ (by unfold gWet; first | (rw [if_pos h223]) | (rw [hc, if_neg h223]))
        refine r_iload (pc := 181) B dX8_goesOn_181 rfl ?_
        refine r_if_ne (pc := 183) B 191 dX8_goesOn_183 (by decide) (fun h183 => ?_) (fun h183 => ?_)
        · skip
          refine r_iconst (pc := 191) (x := 0) B dX8_goesOn_191 (by decide) ?_
          refine r_goto (pc := 192) B 200 dX8_goesOn_192 (by decide) ?_
          exact hJ200 _ (by clear hJ200 B R hW hh hf; unfold gCov; grind)
        · skip
          refine r_iload_n (pc := 186) B dX8_goesOn_186 rfl ?_
          refine r_iconst (pc := 187) (x := 3) B dX8_goesOn_187 (by decide) ?_
          refine r_icmp_ne (pc := 188) B 195 dX8_goesOn_188 (by decide) (fun h188 => ?_) (fun h188 => ?_)
          · skip
            refine r_aload_n (pc := 195) B dX8_goesOn_195 rfl ?_
            refine r_iload_n (pc := 196) B dX8_goesOn_196 rfl ?_
            refine r_cVi1 (pc := 197) B KX8_94 (e_covers l G _ rfl hu (by rw [show sR σ (g5 (σ 66) u j) 66 (3) = σ 66 (3) from g5_ne (w := σ 66) (u := u) (j := j) (k := 3) (by omega) (by omega) (by omega) (by omega)]; exact hW.1)) rfl rfl (by decide) (Nat.le_of_ble_eq_true rfl) dX8_goesOn_197 ?_
            rw [show sR σ (g5 (σ 66) u j) 66 (3) = σ 66 (3) from g5_ne (w := σ 66) (u := u) (j := j) (k := 3) (by omega) (by omega) (by omega) (by omega), show sR σ (g5 (σ 66) u j) 66 (1) = σ 66 (1) from g5_ne (w := σ 66) (u := u) (j := j) (k := 1) (by omega) (by omega) (by omega) (by omega), show um (sR σ (g5 (σ 66) u j) 66) u 0 = um (σ 66) u 0 from g5_ne (by omega) (by omega) (by omega) (by omega), show um (sR σ (g5 (σ 66) u j) 66) u 7 = um (σ 66) u 7 from g5_ne (by omega) (by omega) (by omega) (by omega)]
            exact hJ200 _ (by clear hJ200 B R hW hh hf; unfold gCov; grind)
          · skip
            refine r_iconst (pc := 191) (x := 0) B dX8_goesOn_191 (by decide) ?_
            refine r_goto (pc := 192) B 200 dX8_goesOn_192 (by decide) ?_
            exact hJ200 _ (by clear hJ200 B R hW hh hf; unfold gCov; grind)
      refine r_iload (pc := 102) B dX8_goesOn_102 rfl ?_
      refine r_if_eq (pc := 104) B 155 dX8_goesOn_104 (by decide) (fun h104 => ?_) (fun h104 => ?_)
      · skip
        have hn : ¬ Go (σ 66) u j := by rw [hg] at h104; exact bI_0.mp h104
        first | (rw [show g4 (σ 66) u j = g2 (σ 66) u j by unfold g4; rw [if_neg hn]] at hJ155; exact hJ155) | (rw [show g4 (σ 66) u j = _ by unfold g4; rw [if_pos hgo]] at hJ155; exact hJ155)
      · skip
        have hgo : Go (σ 66) u j := by rw [hg] at h104; exact bI_n.mp h104
        refine r_aload_n (pc := 107) B dX8_goesOn_107 rfl ?_
        refine r_getr (pc := 108) B FX8_7 rfl rfl dX8_goesOn_108 ?_
        refine r_iload_n (pc := 111) B dX8_goesOn_111 rfl ?_
        refine r_bipush (pc := 112) (x := 6) B dX8_goesOn_112 (by decide) ?_
        refine r_cSi2 (pc := 114) B KX8_70 (e_at l G _ _ (u := u) (i := 6) rfl rfl hu (by decide)) (by decide) (Nat.le_of_ble_eq_true rfl) dX8_goesOn_114 ?_
        refine r_sipush (pc := 117) (x := 999) B dX8_goesOn_117 (by decide) ?_
        refine r_aload_n (pc := 120) B dX8_goesOn_120 rfl ?_
        refine r_iload_n (pc := 121) B dX8_goesOn_121 rfl ?_
        refine r_bipush (pc := 122) (x := 6) B dX8_goesOn_122 (by decide) ?_
        refine r_cVi2 (pc := 124) B KX8_59 (e_its l G _ (u := u) (i := 6) rfl rfl hu (by decide)) rfl rfl (by decide) (Nat.le_of_ble_eq_true rfl) dX8_goesOn_124 ?_
        rw [show sR σ (g2 (σ 66) u j) 66 (53 + 8 * u + 6) = σ 66 (53 + 8 * u + 6) from g2_ne (w := σ 66) (u := u) (j := j) (k := 53 + 8 * u + 6) (by omega)]
        refine r_iconst (pc := 127) (x := 1) B dX8_goesOn_127 (by decide) ?_
        refine r_iadd (pc := 128) B dX8_goesOn_128 ?_
        refine r_cSi2 (pc := 129) B KX8_86 (e_least l G _ _ _ _) (by decide) (Nat.le_of_ble_eq_true rfl) dX8_goesOn_129 ?_
        refine r_iast (pc := 132) B rfl (ix_nI (by omega) (by decide)) dX8_goesOn_132 ?_
        rw [st2_66, sR_sR]
        refine r_aload_n (pc := 133) B dX8_goesOn_133 rfl ?_
        refine r_getr (pc := 134) B FX8_7 rfl rfl dX8_goesOn_134 ?_
        refine r_iload_n (pc := 137) B dX8_goesOn_137 rfl ?_
        refine r_iconst (pc := 138) (x := 4) B dX8_goesOn_138 (by decide) ?_
        refine r_cSi2 (pc := 139) B KX8_70 (e_at l G _ _ (u := u) (i := 4) rfl rfl hu (by decide)) (by decide) (Nat.le_of_ble_eq_true rfl) dX8_goesOn_139 ?_
        refine r_iconst (pc := 142) (x := 0) B dX8_goesOn_142 (by decide) ?_
        refine r_aload_n (pc := 143) B dX8_goesOn_143 rfl ?_
        refine r_iload_n (pc := 144) B dX8_goesOn_144 rfl ?_
        refine r_iconst (pc := 145) (x := 4) B dX8_goesOn_145 (by decide) ?_
        refine r_cVi2 (pc := 146) B KX8_59 (e_its l G _ (u := u) (i := 4) rfl rfl hu (by decide)) rfl rfl (by decide) (Nat.le_of_ble_eq_true rfl) dX8_goesOn_146 ?_
        rw [show sR σ (upd (sR σ (g2 (σ 66) u j) 66) (53 + 8 * u + 6) (mn 999 (σ 66 (53 + 8 * u + 6) + 1))) 66 (53 + 8 * u + 4) = σ 66 (53 + 8 * u + 4) by rw [sR_66, sR_66, upd, if_neg (by omega), g2_ne (by omega)]]
        refine r_iconst (pc := 149) (x := 1) B dX8_goesOn_149 (by decide) ?_
        refine r_isub (pc := 150) B dX8_goesOn_150 ?_
        refine r_cSi2 (pc := 151) B KX8_80 (e_greatest l G _ _ _ _) (by decide) (Nat.le_of_ble_eq_true rfl) dX8_goesOn_151 ?_
        refine r_iast (pc := 154) B rfl (ix_nI (by omega) (by decide)) dX8_goesOn_154 ?_
        rw [st2_66, sR_sR, sR_66, sR_66]
        first | (rw [show g4 (σ 66) u j = g2 (σ 66) u j by unfold g4; rw [if_neg hn]] at hJ155; exact hJ155) | (rw [show g4 (σ 66) u j = _ by unfold g4; rw [if_pos hgo]] at hJ155; exact hJ155)
    refine r_iload (pc := 73) B dX8_goesOn_73 rfl ?_
    refine r_if_eq (pc := 75) B 90 dX8_goesOn_75 (by decide) (fun h75 => ?_) (fun h75 => ?_)
    · skip
      refine r_iload (pc := 90) B dX8_goesOn_90 rfl ?_
      refine r_bz_if_eq (pc := 92) B dX8_goesOn_92 dX8_goesOn_95 dX8_goesOn_96 dX8_goesOn_99 ?_
      exact hJ100 _ (by clear hJ100 B R; have ho : um (σ 66) u 5 = 0 ∨ um (σ 66) u 5 = 1 := wi_01 (hW.2.2.2 u 5 hu (by omega)); have eo : σ 66 (53 + 8 * u + 5) = um (σ 66) u 5 := rfl; clear hW hh hf h01; simp only [Ot, otG, outF, goG, bI] at *; grind)
    · skip
      refine r_iload_n (pc := 78) B dX8_goesOn_78 rfl ?_
      refine r_aload_n (pc := 79) B dX8_goesOn_79 rfl ?_
      refine r_getr (pc := 80) B FX8_7 rfl rfl dX8_goesOn_80 ?_
      refine r_iconst (pc := 83) (x := 5) B dX8_goesOn_83 (by decide) ?_
      refine r_iload_n (pc := 84) B dX8_goesOn_84 rfl ?_
      refine r_iadd (pc := 85) B dX8_goesOn_85 ?_
      refine r_iald (pc := 86) B rfl (ix_eq (pl_nI (n := 5) rfl) (by omega) (by decide)) dX8_goesOn_86 ?_
      rw [show sR σ (g2 (σ 66) u j) 66 (5 + j) = σ 66 (5 + j) from g2_ne (w := σ 66) (u := u) (j := j) (k := 5 + j) (by omega)]
      refine r_icmp_ne (pc := 87) B 95 dX8_goesOn_87 (by decide) (fun h87 => ?_) (fun h87 => ?_)
      · skip
        refine r_iconst (pc := 95) (x := 1) B dX8_goesOn_95 (by decide) ?_
        refine r_goto (pc := 96) B 100 dX8_goesOn_96 (by decide) ?_
        exact hJ100 _ (by clear hJ100 B R; have ho : um (σ 66) u 5 = 0 ∨ um (σ 66) u 5 = 1 := wi_01 (hW.2.2.2 u 5 hu (by omega)); have eo : σ 66 (53 + 8 * u + 5) = um (σ 66) u 5 := rfl; clear hW hh hf h01; simp only [Ot, otG, outF, goG, bI] at *; grind)
      · skip
        refine r_iload (pc := 90) B dX8_goesOn_90 rfl ?_
        refine r_bz_if_eq (pc := 92) B dX8_goesOn_92 dX8_goesOn_95 dX8_goesOn_96 dX8_goesOn_99 ?_
        exact hJ100 _ (by clear hJ100 B R; have ho : um (σ 66) u 5 = 0 ∨ um (σ 66) u 5 = 1 := wi_01 (hW.2.2.2 u 5 hu (by omega)); have eo : σ 66 (53 + 8 * u + 5) = um (σ 66) u 5 := rfl; clear hW hh hf h01; simp only [Ot, otG, outF, goG, bI] at *; grind)
  refine r_iload (pc := 41) B dX8_goesOn_41 rfl ?_
  refine r_if_ne (pc := 43) B 70 dX8_goesOn_43 (by decide) (fun h43 => ?_) (fun h43 => ?_)
  · skip
    refine r_iconst (pc := 70) (x := 0) B dX8_goesOn_70 (by decide) ?_
    exact hJ71 _ (by first | exact bI_f (fun q => q.1 (bI_n.mp h43)) | exact bI_f (fun q => q.2.1 h48) | exact bI_cg ⟨fun q => ⟨fun e => bI_0.mp h43 e, h48, bI_n.mpr q⟩, fun q => bI_n.mp q.2.2⟩ | exact bI_cg ⟨fun q => ⟨fun e => bI_0.mp (Classical.not_not.mp h43) e, h48, bI_n.mpr q⟩, fun q => bI_n.mp q.2.2⟩)
  · skip
    refine r_iload_n (pc := 46) B dX8_goesOn_46 rfl ?_
    refine r_iconst (pc := 47) (x := 3) B dX8_goesOn_47 (by decide) ?_
    refine r_icmp_eq (pc := 48) B 70 dX8_goesOn_48 (by decide) (fun h48 => ?_) (fun h48 => ?_)
    · skip
      refine r_iconst (pc := 70) (x := 0) B dX8_goesOn_70 (by decide) ?_
      exact hJ71 _ (by first | exact bI_f (fun q => q.1 (bI_n.mp h43)) | exact bI_f (fun q => q.2.1 h48) | exact bI_cg ⟨fun q => ⟨fun e => bI_0.mp h43 e, h48, bI_n.mpr q⟩, fun q => bI_n.mp q.2.2⟩ | exact bI_cg ⟨fun q => ⟨fun e => bI_0.mp (Classical.not_not.mp h43) e, h48, bI_n.mpr q⟩, fun q => bI_n.mp q.2.2⟩)
    · skip
      refine r_aload_n (pc := 51) B dX8_goesOn_51 rfl ?_
      refine r_iload_n (pc := 52) B dX8_goesOn_52 rfl ?_
      refine r_cVi1 (pc := 53) B KX8_64 (e_wind l G _ rfl hj) rfl rfl (by decide) (Nat.le_of_ble_eq_true rfl) dX8_goesOn_53 ?_
      rw [show windF (fun k => sR σ (g2 (σ 66) u j) 66 (21 + k)) (fun k => sR σ (g2 (σ 66) u j) 66 (37 + k)) (sR σ (g2 (σ 66) u j) 66 4) (sR σ (g2 (σ 66) u j) 66 1) j = Wd (σ 66) j from wd_cg (w := σ 66) (x := g2 (σ 66) u j) (g2_ne (w := σ 66) (k := 21 + j) (by omega)) (g2_ne (w := σ 66) (k := 37 + j) (by omega)) (g2_ne (w := σ 66) (k := 4) (by omega)) (g2_ne (w := σ 66) (k := 1) (by omega))]
      refine r_aload_n (pc := 56) B dX8_goesOn_56 rfl ?_
      refine r_iload_n (pc := 57) B dX8_goesOn_57 rfl ?_
      refine r_iload_n (pc := 58) B dX8_goesOn_58 rfl ?_
      refine r_iload_n (pc := 59) B dX8_goesOn_59 rfl ?_
      refine r_cVi3 (pc := 60) B KX8_106 (e_bearsOn l G _ rfl rfl hu hj hh (by rw [show sR σ (g2 (σ 66) u j) 66 (5 + j) = σ 66 (5 + j) from g2_ne (w := σ 66) (u := u) (j := j) (k := 5 + j) (by omega)]; exact hf)) rfl rfl (by decide) (Nat.le_of_ble_eq_true rfl) dX8_goesOn_60 ?_
      rw [show sR σ (g2 (σ 66) u j) 66 (5 + j) = σ 66 (5 + j) from g2_ne (w := σ 66) (u := u) (j := j) (k := 5 + j) (by omega), st_cg (a := um (sR σ (g2 (σ 66) u j) 66) u) (b := um (σ 66) u) (g2_ne (by omega)) (g2_ne (by omega)) (g2_ne (by omega))]
      refine r_bz_icmp_le (pc := 63) B dX8_goesOn_63 dX8_goesOn_66 dX8_goesOn_67 dX8_goesOn_70 ?_
      exact hJ71 _ (by first | exact bI_f (fun q => q.1 (bI_n.mp h43)) | exact bI_f (fun q => q.2.1 h48) | exact bI_cg ⟨fun q => ⟨fun e => bI_0.mp h43 e, h48, bI_n.mpr q⟩, fun q => bI_n.mp q.2.2⟩ | exact bI_cg ⟨fun q => ⟨fun e => bI_0.mp (Classical.not_not.mp h43) e, h48, bI_n.mpr q⟩, fun q => bI_n.mp q.2.2⟩)

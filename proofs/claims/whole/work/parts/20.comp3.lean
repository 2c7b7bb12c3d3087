/-! how to go -/
def fsF (w : Nat → Int32) : Nat → Int32 × Int32
  | 0 => (-1, 0)
  | n + 1 => if ¬ hmR (hmW w n) < 0 ∧ ((fsF w n).1 < 0 ∨ ¬ (fsF w n).2 ≤ hmR (hmW w n)) then (nI n, hmR (hmW w n)) else fsF w n
abbrev OPT : Type := Option ((Nat → Int32) × WS)
def dH (o : OPT) : Option Int32 := o.bind (fun q => if (hmN (wF q.1) 200 q.2).2.2 1 = 16 then some ((hmN (wF q.1) 200 q.2).2.2 7) else none)
def drS (p : Int32 × Int32) (n : Nat) (o : Option Int32) : Int32 × Int32 := match o with
  | none => p
  | some v => if p.1 < 0 ∨ ¬ p.2 ≤ v then (nI n, v) else p
def drF (H : Nat → Option Int32) : Nat → Int32 × Int32
  | 0 => (-1, 0)
  | n + 1 => drS (drF H n) n (H n)
/-- an option of a choice is taken, if it is to be had -/
def chC (l : Launch) (G : GG) (σ : Sg) (N M : Nat) (c : Int32) (OP : Nat → Nat → OPT) : Prop := ∀ (u n : Nat) (ρ : Sg), u < N → n < M → wkO σ ρ → CpI l G mX5_choose 2 shT [.ref (ad G 46), .int c, .int (nI n)] (swk ρ u) (bI ((OP u n).isSome = true)) (fun τ => wkO σ τ ∧ ∀ q, OP u n = some q → WkIs τ q.1 q.2.1 q.2.2)
noncomputable def gfN (w : Nat → Int32) (u : Nat) : Nat → Option Nat
  | 0 => none
  | n + 1 => if chB (wF (upd w 4 (nI n))) (um w u 6) 200 (w 1, um w u) = 0 then gfN w u n else some n
noncomputable def rfN (w : Nat → Int32) (u : Nat) : Nat → Nat → Option Nat
  | 0, _ => none
  | n + 1, i => if chB (wF w) (upd (um w u) 4 (nI i) 6) 200 (w 1, upd (um w u) 4 (nI i)) = 0 then rfN w u n (i + 1) else some i

set_option maxHeartbeats 4000000 in
set_option maxRecDepth 20000 in
theorem c_first (l : Launch) (G : GG) (σ : Sg) {N : Nat} (hN8 : N ≤ 8) (hN : σ 1 2 = nI N) : Ct l G mX7_first 5 shT [.ref (ad G 0)] σ (fun r τ => ((fsF (vw 1 σ) N).1 < 0 ∧ fW σ 3 r τ) ∨ (¬ (fsF (vw 1 σ) N).1 < 0 ∧ r = some (.int (fsF (vw 1 σ) N).1) ∧ wkO σ τ)) := by
  refine ct_intro (by decide) (Nat.le_of_ble_eq_true rfl) (fun X B R => ?_)
  show V X G shT σ [some (.ref (ad G 0)), none, none, none, none] [] 0
  refine r_iconst (pc := 0) (x := (-1)) B dX7_first_0 (by decide) ?_
  refine r_istore_1 (pc := 1) B dX7_first_1 (by decide) rfl ?_
  refine r_iconst (pc := 2) (x := 0) B dX7_first_2 (by decide) ?_
  refine r_istore_2 (pc := 3) B dX7_first_3 (by decide) rfl ?_
  refine r_iconst (pc := 4) (x := 0) B dX7_first_4 (by decide) ?_
  refine r_istore_3 (pc := 5) B dX7_first_5 (by decide) rfl ?_
  have hL6 : ∀ (n i : Nat) (b f t : Int32) (ρ : Sg) (tl : Option Value), i + n = N → wkO σ ρ → (b, f) = fsF (vw 1 σ) i → V X G shT ρ [some (.ref (ad G 0)), some (.int b), some (.int f), some (.int (nI i)), tl] [] 6 := by
    intro n
    induction n with
    | zero =>
      intro i b f t ρ tl hi hw hp
      have ei : i = N := by omega
      subst ei
      have hz : ρ 1 2 = nI i := by rw [hw 1 (by omega)]; exact hN
      refine r_iload_n (pc := 6) B dX7_first_6 rfl ?_
      refine r_aload_n (pc := 7) B dX7_first_7 rfl ?_
      refine r_getr (pc := 8) B FX7_10 rfl rfl dX7_first_8 ?_
      refine r_geti (pc := 11) B FX7_175 rfl rfl dX7_first_11 ?_
      rw [hz]
      refine r_icmp_ge (pc := 14) B 57 dX7_first_14 (by decide) (fun h14 => ?_) (fun h14 => ?_)
      · skip
        refine r_iload_n (pc := 57) B dX7_first_57 rfl ?_
        refine r_if_ge (pc := 58) B 69 dX7_first_58 (by decide) (fun h58 => ?_) (fun h58 => ?_)
        · skip
          have hb : ¬ (fsF (vw 1 σ) i).1 < 0 := by rw [← hp]; exact Int32.not_lt.mpr h58
          refine r_iload_n (pc := 69) B dX7_first_69 rfl ?_
          exact r_iret (pc := 70) B R dX7_first_70 (by first | exact Or.inl ⟨hb, rfl, _, hw, rfl⟩ | exact Or.inr ⟨hb, by rw [← hp], hw⟩)
        · skip
          have hb : (fsF (vw 1 σ) i).1 < 0 := by rw [← hp]; exact Int32.not_le.mp h58
          refine r_aload_n (pc := 61) B dX7_first_61 rfl ?_
          refine r_iconst (pc := 62) (x := 3) B dX7_first_62 (by decide) ?_
          refine r_cVi1 (pc := 63) B KX7_64 (c_finding l G _ 3 (ix_of 3 rfl)) rfl rfl (by decide) (Nat.le_of_ble_eq_true rfl) dX7_first_63 ?_
          refine r_goto (pc := 66) B 70 dX7_first_66 (by decide) ?_
          exact r_iret (pc := 70) B R dX7_first_70 (by first | exact Or.inl ⟨hb, rfl, _, hw, rfl⟩ | exact Or.inr ⟨hb, by rw [← hp], hw⟩)
      · skip
        exact absurd ((nI_leI (by omega) (by omega)).mpr (Nat.le_refl _)) h14
    | succ n ih =>
      intro i b f t ρ tl hi hw hp
      have hz : ρ 1 2 = nI N := by rw [hw 1 (by omega)]; exact hN
      obtain ⟨hk1, hk2⟩ := swk_is (u := i) (by omega) hw
      refine r_iload_n (pc := 6) B dX7_first_6 rfl ?_
      refine r_aload_n (pc := 7) B dX7_first_7 rfl ?_
      refine r_getr (pc := 8) B FX7_10 rfl rfl dX7_first_8 ?_
      refine r_geti (pc := 11) B FX7_175 rfl rfl dX7_first_11 ?_
      rw [hz]
      refine r_icmp_ge (pc := 14) B 57 dX7_first_14 (by decide) (fun h14 => ?_) (fun h14 => ?_)
      · skip
        exact absurd ((nI_leI (a := N) (b := i) (by omega) (by omega)).mp h14) (by omega)
      · skip
        refine r_aload_n (pc := 17) B dX7_first_17 rfl ?_
        refine r_iload_n (pc := 18) B dX7_first_18 rfl ?_
        refine r_cVv1 (pc := 19) B KX7_158 (c_startWalk l G _ hN8 hz (by omega)) rfl rfl (by decide) (Nat.le_of_ble_eq_true rfl) dX7_first_19 ?_
        refine r_aload_n (pc := 22) B dX7_first_22 rfl ?_
        refine r_getr (pc := 23) B FX7_29 rfl rfl dX7_first_23 ?_
        refine r_cVpi0 (pc := 26) B KX7_169 (c_thW l G hk1) rfl rfl (by decide) (Nat.le_of_ble_eq_true rfl) dX7_first_26 (fun ρ2 hq => ?_)
        have hv : fsF (vw 1 σ) (i + 1) = if ¬ hmR (hmW (vw 1 σ) i) < 0 ∧ (b < 0 ∨ ¬ f ≤ hmR (hmW (vw 1 σ) i)) then (nI i, hmR (hmW (vw 1 σ) i)) else (b, f) := by rw [fsF, ← hp]
        refine r_istore_4 (pc := 29) B dX7_first_29 (by decide) rfl ?_
        refine r_iload (pc := 31) B dX7_first_31 rfl ?_
        refine r_if_lt (pc := 33) B 51 dX7_first_33 (by decide) (fun h33 => ?_) (fun h33 => ?_)
        · skip
          have hd := hv.trans (if_neg (fun z => z.1 h33))
          refine r_iinc_3 (pc := 51) (y := _ + 1) B dX7_first_51 rfl (by decide) rfl ?_
          refine r_goto (pc := 54) B 6 dX7_first_54 (by decide) ?_
          rw [nI_1]
          refine ih (i + 1) _ _ 0 ρ2 _ (by omega) (hk2.tr hq.1) ?_
          exact hd.symm
        · skip
          refine r_iload_n (pc := 36) B dX7_first_36 rfl ?_
          refine r_if_lt (pc := 37) B 46 dX7_first_37 (by decide) (fun h37 => ?_) (fun h37 => ?_)
          · skip
            have hd := hv.trans (if_pos ⟨h33, Or.inl h37⟩)
            refine r_iload_n (pc := 46) B dX7_first_46 rfl ?_
            refine r_istore_1 (pc := 47) B dX7_first_47 (by decide) rfl ?_
            refine r_iload (pc := 48) B dX7_first_48 rfl ?_
            refine r_istore_2 (pc := 50) B dX7_first_50 (by decide) rfl ?_
            refine r_iinc_3 (pc := 51) (y := _ + 1) B dX7_first_51 rfl (by decide) rfl ?_
            refine r_goto (pc := 54) B 6 dX7_first_54 (by decide) ?_
            rw [nI_1]
            refine ih (i + 1) _ _ 0 ρ2 _ (by omega) (hk2.tr hq.1) ?_
            exact hd.symm
          · skip
            refine r_iload (pc := 40) B dX7_first_40 rfl ?_
            refine r_iload_n (pc := 42) B dX7_first_42 rfl ?_
            refine r_icmp_ge (pc := 43) B 51 dX7_first_43 (by decide) (fun h43 => ?_) (fun h43 => ?_)
            · skip
              have hd := hv.trans (if_neg (fun z => z.2.elim h37 (fun y => y h43)))
              refine r_iinc_3 (pc := 51) (y := _ + 1) B dX7_first_51 rfl (by decide) rfl ?_
              refine r_goto (pc := 54) B 6 dX7_first_54 (by decide) ?_
              rw [nI_1]
              refine ih (i + 1) _ _ 0 ρ2 _ (by omega) (hk2.tr hq.1) ?_
              exact hd.symm
            · skip
              have hd := hv.trans (if_pos ⟨h33, Or.inr h43⟩)
              refine r_iload_n (pc := 46) B dX7_first_46 rfl ?_
              refine r_istore_1 (pc := 47) B dX7_first_47 (by decide) rfl ?_
              refine r_iload (pc := 48) B dX7_first_48 rfl ?_
              refine r_istore_2 (pc := 50) B dX7_first_50 (by decide) rfl ?_
              refine r_iinc_3 (pc := 51) (y := _ + 1) B dX7_first_51 rfl (by decide) rfl ?_
              refine r_goto (pc := 54) B 6 dX7_first_54 (by decide) ?_
              rw [nI_1]
              refine ih (i + 1) _ _ 0 ρ2 _ (by omega) (hk2.tr hq.1) ?_
              exact hd.symm
  exact hL6 N 0 (-1) 0 0 σ _ (by omega) (wkO.rf σ) rfl
set_option maxHeartbeats 4000000 in
set_option maxRecDepth 20000 in
theorem c_driest (l : Launch) (G : GG) (σ : Sg) {N : Nat} (hN8 : N ≤ 8) (hN : σ 1 2 = nI N) (x c : Int32) {M : Nat} (hM : M ≤ 16) (OP : Nat → Nat → OPT) (hc : chC l G σ N M c OP) : Ct l G mX7_driest 5 shT [.ref (ad G 0), .int x, .int c, .int (nI M)] σ (fun r τ => (¬ umbP σ x ∧ fQ σ 0 r τ) ∨ ∃ u, u < N ∧ x = nI u ∧ (((drF (fun n => dH (OP u n)) M).1 < 0 ∧ fW σ 3 r τ) ∨ (¬ (drF (fun n => dH (OP u n)) M).1 < 0 ∧ r = some (.int (drF (fun n => dH (OP u n)) M).1) ∧ wkO σ τ))) := by
  refine ct_intro (by decide) (Nat.le_of_ble_eq_true rfl) (fun X B R => ?_)
  show V X G shT σ [some (.ref (ad G 0)), some (.int x), some (.int c), some (.int (nI M)), none, none, none] [] 0
  refine r_aload_n (pc := 0) B dX7_driest_0 rfl ?_
  refine r_iload_n (pc := 1) B dX7_driest_1 rfl ?_
  refine r_cVi1 (pc := 2) B KX7_111 (c_isUmbrella l G _ _) rfl rfl (by decide) (Nat.le_of_ble_eq_true rfl) dX7_driest_2 ?_
  refine r_if_ne (pc := 5) B 14 dX7_driest_5 (by decide) (fun h5 => ?_) (fun h5 => ?_)
  · skip
    obtain ⟨u, hu1, hu2⟩ := umb_nI hN8 hN (bI_n.mp h5)
    refine r_iconst (pc := 14) (x := (-1)) B dX7_driest_14 (by decide) ?_
    refine r_istore_4 (pc := 15) B dX7_driest_15 (by decide) rfl ?_
    refine r_iconst (pc := 17) (x := 0) B dX7_driest_17 (by decide) ?_
    refine r_istore_5 (pc := 18) B dX7_driest_18 (by decide) rfl ?_
    refine r_iconst (pc := 20) (x := 0) B dX7_driest_20 (by decide) ?_
    refine r_istore_6 (pc := 21) B dX7_driest_21 (by decide) rfl ?_
    have hL23 : ∀ (n i : Nat) (b f : Int32) (ρ : Sg), i + n = M → wkO σ ρ → (b, f) = drF (fun n => dH (OP u n)) i → V X G shT ρ [some (.ref (ad G 0)), some (.int x), some (.int c), some (.int (nI M)), some (.int b), some (.int f), some (.int (nI i))] [] 23 := by
      intro n
      induction n with
      | zero =>
        intro i b f ρ hi hw hp
        have ei : i = M := by omega
        subst ei
        refine r_iload (pc := 23) B dX7_driest_23 rfl ?_
        refine r_iload_n (pc := 25) B dX7_driest_25 rfl ?_
        refine r_icmp_ge (pc := 26) B 102 dX7_driest_26 (by decide) (fun h26 => ?_) (fun h26 => ?_)
        · skip
          refine r_iload (pc := 102) B dX7_driest_102 rfl ?_
          refine r_if_ge (pc := 104) B 115 dX7_driest_104 (by decide) (fun h104 => ?_) (fun h104 => ?_)
          · skip
            have hb : ¬ (drF (fun n => dH (OP u n)) i).1 < 0 := by rw [← hp]; exact Int32.not_lt.mpr h104
            refine r_iload (pc := 115) B dX7_driest_115 rfl ?_
            exact r_iret (pc := 117) B R dX7_driest_117 (Or.inr ⟨u, hu1, hu2, by first | exact Or.inl ⟨hb, rfl, _, hw, rfl⟩ | exact Or.inr ⟨hb, by rw [← hp], hw⟩⟩)
          · skip
            have hb : (drF (fun n => dH (OP u n)) i).1 < 0 := by rw [← hp]; exact Int32.not_le.mp h104
            refine r_aload_n (pc := 107) B dX7_driest_107 rfl ?_
            refine r_iconst (pc := 108) (x := 3) B dX7_driest_108 (by decide) ?_
            refine r_cVi1 (pc := 109) B KX7_64 (c_finding l G _ 3 (ix_of 3 rfl)) rfl rfl (by decide) (Nat.le_of_ble_eq_true rfl) dX7_driest_109 ?_
            refine r_goto (pc := 112) B 117 dX7_driest_112 (by decide) ?_
            exact r_iret (pc := 117) B R dX7_driest_117 (Or.inr ⟨u, hu1, hu2, by first | exact Or.inl ⟨hb, rfl, _, hw, rfl⟩ | exact Or.inr ⟨hb, by rw [← hp], hw⟩⟩)
        · skip
          exact absurd ((nI_leI (by omega) (by omega)).mpr (Nat.le_refl _)) h26
      | succ n ih =>
        intro i b f ρ hi hw hp
        have hz : ρ 1 2 = nI N := by rw [hw 1 (by omega)]; exact hN
        have hcc := hc u i ρ hu1 (by omega) hw
        refine r_iload (pc := 23) B dX7_driest_23 rfl ?_
        refine r_iload_n (pc := 25) B dX7_driest_25 rfl ?_
        refine r_icmp_ge (pc := 26) B 102 dX7_driest_26 (by decide) (fun h26 => ?_) (fun h26 => ?_)
        · skip
          exact absurd ((nI_leI (a := M) (b := i) (by omega) (by omega)).mp h26) (by omega)
        · skip
          refine r_aload_n (pc := 29) B dX7_driest_29 rfl ?_
          refine r_iload_n (pc := 30) B dX7_driest_30 rfl ?_
          rw [hu2]
          refine r_cVv1 (pc := 31) B KX7_158 (c_startWalk l G _ hN8 hz hu1) rfl rfl (by decide) (Nat.le_of_ble_eq_true rfl) dX7_driest_31 ?_
          refine r_aload_n (pc := 34) B dX7_driest_34 rfl ?_
          refine r_getr (pc := 35) B FX7_29 rfl rfl dX7_driest_35 ?_
          refine r_iload_n (pc := 38) B dX7_driest_38 rfl ?_
          refine r_iload (pc := 39) B dX7_driest_39 rfl ?_
          refine r_cVpi2 (pc := 41) B KX7_268 hcc rfl rfl (by decide) (Nat.le_of_ble_eq_true rfl) dX7_driest_41 (fun ρ1 hq => ?_)
          refine r_if_eq (pc := 44) B 96 dX7_driest_44 (by decide) (fun h44 => ?_) (fun h44 => ?_)
          · skip
            rw [← hu2]
            have hO : OP u i = none := Option.not_isSome_iff_eq_none.mp (bI_0.mp h44)
            have hd : drF (fun n => dH (OP u n)) (i + 1) = (b, f) := by rw [drF, ← hp, hO]; rfl
            refine r_iinc_6 (pc := 96) (y := _ + 1) B dX7_driest_96 rfl (by decide) rfl ?_
            refine r_goto (pc := 99) B 23 dX7_driest_99 (by decide) ?_
            rw [nI_1]
            first | refine ih (i + 1) _ _ ρ2 (by omega) (hq.1.tr hq2.1) ?_ | refine ih (i + 1) _ _ ρ1 (by omega) hq.1 ?_
            exact hd.symm
          · skip
            rw [← hu2]
            obtain ⟨y, hO⟩ := Option.isSome_iff_exists.mp (bI_n.mp h44)
            have hb := hmR_ge (hm_le (wF y.1) 200 (y.2.1, y.2.2))
            refine r_aload_n (pc := 47) B dX7_driest_47 rfl ?_
            refine r_getr (pc := 48) B FX7_29 rfl rfl dX7_driest_48 ?_
            refine r_cVpi0 (pc := 51) B KX7_169 (c_thW l G (hq.2 y hO)) rfl rfl (by decide) (Nat.le_of_ble_eq_true rfl) dX7_driest_51 (fun ρ2 hq2 => ?_)
            refine r_if_ge (pc := 54) B 60 dX7_driest_54 (by decide) (fun h54 => ?_) (fun h54 => ?_)
            · skip
              have hv : drF (fun n => dH (OP u n)) (i + 1) = if b < 0 ∨ ¬ f ≤ (hmN (wF y.1) 200 (y.2.1, y.2.2)).2.2 7 then (nI i, (hmN (wF y.1) 200 (y.2.1, y.2.2)).2.2 7) else (b, f) := by rw [drF, ← hp, hO, dH, Option.bind_some, if_pos (hb.mp h54)]; rfl
              refine r_iload (pc := 60) B dX7_driest_60 rfl ?_
              refine r_if_lt (pc := 62) B 80 dX7_driest_62 (by decide) (fun h62 => ?_) (fun h62 => ?_)
              · skip
                have hd := hv.trans (if_pos (Or.inl h62))
                refine r_iload (pc := 80) B dX7_driest_80 rfl ?_
                refine r_istore_4 (pc := 82) B dX7_driest_82 (by decide) rfl ?_
                refine r_aload_n (pc := 84) B dX7_driest_84 rfl ?_
                refine r_getr (pc := 85) B FX7_29 rfl rfl dX7_driest_85 ?_
                refine r_getr (pc := 88) B FX7_165 rfl rfl dX7_driest_88 ?_
                refine r_geti (pc := 91) B FX7_271 rfl rfl dX7_driest_91 ?_
                rw [hq2.2 7 (by omega)]
                refine r_istore_5 (pc := 94) B dX7_driest_94 (by decide) rfl ?_
                refine r_iinc_6 (pc := 96) (y := _ + 1) B dX7_driest_96 rfl (by decide) rfl ?_
                refine r_goto (pc := 99) B 23 dX7_driest_99 (by decide) ?_
                rw [nI_1]
                first | refine ih (i + 1) _ _ ρ2 (by omega) (hq.1.tr hq2.1) ?_ | refine ih (i + 1) _ _ ρ1 (by omega) hq.1 ?_
                exact hd.symm
              · skip
                refine r_aload_n (pc := 65) B dX7_driest_65 rfl ?_
                refine r_getr (pc := 66) B FX7_29 rfl rfl dX7_driest_66 ?_
                refine r_getr (pc := 69) B FX7_165 rfl rfl dX7_driest_69 ?_
                refine r_geti (pc := 72) B FX7_271 rfl rfl dX7_driest_72 ?_
                rw [hq2.2 7 (by omega)]
                refine r_iload (pc := 75) B dX7_driest_75 rfl ?_
                refine r_icmp_ge (pc := 77) B 96 dX7_driest_77 (by decide) (fun h77 => ?_) (fun h77 => ?_)
                · skip
                  have hd := hv.trans (if_neg (fun z => z.elim h62 (fun y => y h77)))
                  refine r_iinc_6 (pc := 96) (y := _ + 1) B dX7_driest_96 rfl (by decide) rfl ?_
                  refine r_goto (pc := 99) B 23 dX7_driest_99 (by decide) ?_
                  rw [nI_1]
                  first | refine ih (i + 1) _ _ ρ2 (by omega) (hq.1.tr hq2.1) ?_ | refine ih (i + 1) _ _ ρ1 (by omega) hq.1 ?_
                  exact hd.symm
                · skip
                  have hd := hv.trans (if_pos (Or.inr h77))
                  refine r_iload (pc := 80) B dX7_driest_80 rfl ?_
                  refine r_istore_4 (pc := 82) B dX7_driest_82 (by decide) rfl ?_
                  refine r_aload_n (pc := 84) B dX7_driest_84 rfl ?_
                  refine r_getr (pc := 85) B FX7_29 rfl rfl dX7_driest_85 ?_
                  refine r_getr (pc := 88) B FX7_165 rfl rfl dX7_driest_88 ?_
                  refine r_geti (pc := 91) B FX7_271 rfl rfl dX7_driest_91 ?_
                  rw [hq2.2 7 (by omega)]
                  refine r_istore_5 (pc := 94) B dX7_driest_94 (by decide) rfl ?_
                  refine r_iinc_6 (pc := 96) (y := _ + 1) B dX7_driest_96 rfl (by decide) rfl ?_
                  refine r_goto (pc := 99) B 23 dX7_driest_99 (by decide) ?_
                  rw [nI_1]
                  first | refine ih (i + 1) _ _ ρ2 (by omega) (hq.1.tr hq2.1) ?_ | refine ih (i + 1) _ _ ρ1 (by omega) hq.1 ?_
                  exact hd.symm
            · skip
              have hd : drF (fun n => dH (OP u n)) (i + 1) = (b, f) := by rw [drF, ← hp, hO, dH, Option.bind_some, if_neg (fun z => h54 (hb.mpr z))]; rfl
              refine r_goto (pc := 57) B 96 dX7_driest_57 (by decide) ?_
              refine r_iinc_6 (pc := 96) (y := _ + 1) B dX7_driest_96 rfl (by decide) rfl ?_
              refine r_goto (pc := 99) B 23 dX7_driest_99 (by decide) ?_
              rw [nI_1]
              first | refine ih (i + 1) _ _ ρ2 (by omega) (hq.1.tr hq2.1) ?_ | refine ih (i + 1) _ _ ρ1 (by omega) hq.1 ?_
              exact hd.symm
    exact hL23 M 0 (-1) 0 σ (by omega) (wkO.rf σ) rfl
  · skip
    refine r_aload_n (pc := 8) B dX7_driest_8 rfl ?_
    refine r_iconst (pc := 9) (x := 0) B dX7_driest_9 (by decide) ?_
    refine r_cVi1 (pc := 10) B KX7_64 (c_finding l G _ 0 (ix_of 0 rfl)) rfl rfl (by decide) (Nat.le_of_ble_eq_true rfl) dX7_driest_10 ?_
    exact r_iret (pc := 13) B R dX7_driest_13 (Or.inl ⟨fun q => bI_0.mp h5 q, rfl, rfl⟩)
/-- the options: a number of the umbrella's, a roof, a wait -/
def opM (w : Nat → Int32) (f u n : Nat) : OPT := some (w, w 1, upd (um w u) f (nI n))
def opW (w : Nat → Int32) (u n : Nat) : OPT := some (w, mn 99999 (w 1 + nI n), um w u)
def opR (w : Nat → Int32) (u n : Nat) : OPT := if w (37 + n) = 1 then none else some (upd w (37 + n) 1, w 1, um w u)
theorem ch_M (l : Launch) (G : GG) {σ : Sg} {N M f : Nat} (hN8 : N ≤ 8) (hf : f < 8) : chC l G σ N M (nI f) (opM (vw 1 σ) f) := fun u n ρ hu hn h => by
  obtain ⟨h1, h2⟩ := swk_is (u := u) (by omega) h
  refine (c_chooseM l G (swk ρ u) hf (nI n)).mono (fun r τ q => ⟨by rw [q.1]; rfl, ?_, fun y hy => ?_⟩)
  · rw [q.2]; exact st2_wkO h2 (by omega)
  · cases hy; rw [q.2]; exact h1.mark f _
theorem ch_W (l : Launch) (G : GG) {σ : Sg} {N M : Nat} (hN8 : N ≤ 8) : chC l G σ N M 21 (opW (vw 1 σ)) := fun u n ρ hu hn h => by
  obtain ⟨h1, h2⟩ := swk_is (u := u) (by omega) h
  refine (c_chooseW l G (swk ρ u) (nI n)).mono (fun r τ q => ⟨by rw [q.1]; rfl, ?_, fun y hy => ?_⟩)
  · rw [q.2]; exact st2_wkO h2 (by omega)
  · cases hy; rw [q.2]; exact h1.wait _
theorem ch_R (l : Launch) (G : GG) {σ : Sg} {N : Nat} (hN8 : N ≤ 8) : chC l G σ N 16 20 (opR (vw 1 σ)) := fun u n ρ hu hn h => by
  obtain ⟨h1, h2⟩ := swk_is (u := u) (by omega) h
  have e := h1.2.2.1 n hn
  refine (c_chooseR l G (swk ρ u) hn).mono (fun r τ q => ⟨?_, ?_, fun y hy => ?_⟩)
  · rw [q.1, e]
    congr 2
    by_cases z : vw 1 σ (37 + n) = 1 <;> simp [opR, z, bI]
  · rw [q.2]
    split
    · exact h2
    · exact st2_wkO h2 (by omega)
  · rw [q.2, e]
    unfold opR at hy
    by_cases z : vw 1 σ (37 + n) = 1
    · rw [if_pos z] at hy; cases hy
    · rw [if_neg z] at hy; cases hy; rw [if_neg z]; exact h1.roof hn 1
/-- driest of M options -/
abbrev drQ (σ : Sg) (N M : Nat) (OP : Nat → Nat → OPT) (x : Int32) (r : Option Value) (τ : Sg) : Prop := (¬ umbP σ x ∧ fQ σ 0 r τ) ∨ ∃ u, u < N ∧ x = nI u ∧ (((drF (fun n => dH (OP u n)) M).1 < 0 ∧ fW σ 3 r τ) ∨ (¬ (drF (fun n => dH (OP u n)) M).1 < 0 ∧ r = some (.int (drF (fun n => dH (OP u n)) M).1) ∧ wkO σ τ))

set_option maxHeartbeats 4000000 in
set_option maxRecDepth 20000 in
theorem c_habitFor (l : Launch) (G : GG) (σ : Sg) {N : Nat} (hN8 : N ≤ 8) (hN : σ 1 2 = nI N) (x : Int32) : Ct l G mX7_habitFor 6 shT [.ref (ad G 0), .int x] σ (drQ σ N 4 (opM (vw 1 σ) 3) x) := by
  refine ct_intro (by decide) (Nat.le_of_ble_eq_true rfl) (fun X B R => ?_)
  show V X G shT σ [some (.ref (ad G 0)), some (.int x)] [] 0
  refine r_aload_n (pc := 0) B dX7_habitFor_0 rfl ?_
  refine r_iload_n (pc := 1) B dX7_habitFor_1 rfl ?_
  refine r_iconst (pc := 2) (x := 3) B dX7_habitFor_2 (by decide) ?_
  refine r_iconst (pc := 3) (x := 4) B dX7_habitFor_3 (by decide) ?_
  refine r_cV (pc := 4) (As := [.int x, .int (nI 3), .int (nI 4)]) (C := yX7_driest.cls) B KX7_178 (c_driest l G _ hN8 hN x (nI 3) (M := 4) (by omega) (opM (vw 1 σ) 3) (ch_M l G hN8 (by omega))) (by decide) rfl rfl rfl (Nat.le_of_ble_eq_true rfl) dX7_habitFor_4 (fun r τ hq => ?_)
  have hr : ∃ v, r = some (.int v) := by rcases hq with ⟨-, h, -⟩ | ⟨u, -, -, ⟨-, h, -⟩ | ⟨-, h, -⟩⟩ <;> exact ⟨_, h⟩
  obtain ⟨v, rfl⟩ := hr
  exact r_iret (pc := 7) B R dX7_habitFor_7 hq
set_option maxHeartbeats 4000000 in
set_option maxRecDepth 20000 in
theorem c_heldFor (l : Launch) (G : GG) (σ : Sg) {N : Nat} (hN8 : N ≤ 8) (hN : σ 1 2 = nI N) (x : Int32) : Ct l G mX7_heldFor 6 shT [.ref (ad G 0), .int x] σ (drQ σ N 4 (opM (vw 1 σ) 2) x) := by
  refine ct_intro (by decide) (Nat.le_of_ble_eq_true rfl) (fun X B R => ?_)
  show V X G shT σ [some (.ref (ad G 0)), some (.int x)] [] 0
  refine r_aload_n (pc := 0) B dX7_heldFor_0 rfl ?_
  refine r_iload_n (pc := 1) B dX7_heldFor_1 rfl ?_
  refine r_iconst (pc := 2) (x := 2) B dX7_heldFor_2 (by decide) ?_
  refine r_iconst (pc := 3) (x := 4) B dX7_heldFor_3 (by decide) ?_
  refine r_cV (pc := 4) (As := [.int x, .int (nI 2), .int (nI 4)]) (C := yX7_driest.cls) B KX7_178 (c_driest l G _ hN8 hN x (nI 2) (M := 4) (by omega) (opM (vw 1 σ) 2) (ch_M l G hN8 (by omega))) (by decide) rfl rfl rfl (Nat.le_of_ble_eq_true rfl) dX7_heldFor_4 (fun r τ hq => ?_)
  have hr : ∃ v, r = some (.int v) := by rcases hq with ⟨-, h, -⟩ | ⟨u, -, -, ⟨-, h, -⟩ | ⟨-, h, -⟩⟩ <;> exact ⟨_, h⟩
  obtain ⟨v, rfl⟩ := hr
  exact r_iret (pc := 7) B R dX7_heldFor_7 hq
set_option maxHeartbeats 4000000 in
set_option maxRecDepth 20000 in
theorem c_kindFor (l : Launch) (G : GG) (σ : Sg) {N : Nat} (hN8 : N ≤ 8) (hN : σ 1 2 = nI N) (x : Int32) : Ct l G mX7_kindFor 6 shT [.ref (ad G 0), .int x] σ (drQ σ N 7 (opM (vw 1 σ) 0) x) := by
  refine ct_intro (by decide) (Nat.le_of_ble_eq_true rfl) (fun X B R => ?_)
  show V X G shT σ [some (.ref (ad G 0)), some (.int x)] [] 0
  refine r_aload_n (pc := 0) B dX7_kindFor_0 rfl ?_
  refine r_iload_n (pc := 1) B dX7_kindFor_1 rfl ?_
  refine r_iconst (pc := 2) (x := 0) B dX7_kindFor_2 (by decide) ?_
  refine r_bipush (pc := 3) (x := 7) B dX7_kindFor_3 (by decide) ?_
  refine r_cV (pc := 5) (As := [.int x, .int (nI 0), .int (nI 7)]) (C := yX7_driest.cls) B KX7_178 (c_driest l G _ hN8 hN x (nI 0) (M := 7) (by omega) (opM (vw 1 σ) 0) (ch_M l G hN8 (by omega))) (by decide) rfl rfl rfl (Nat.le_of_ble_eq_true rfl) dX7_kindFor_5 (fun r τ hq => ?_)
  have hr : ∃ v, r = some (.int v) := by rcases hq with ⟨-, h, -⟩ | ⟨u, -, -, ⟨-, h, -⟩ | ⟨-, h, -⟩⟩ <;> exact ⟨_, h⟩
  obtain ⟨v, rfl⟩ := hr
  exact r_iret (pc := 8) B R dX7_kindFor_8 hq
set_option maxHeartbeats 4000000 in
set_option maxRecDepth 20000 in
theorem c_roofFor (l : Launch) (G : GG) (σ : Sg) {N : Nat} (hN8 : N ≤ 8) (hN : σ 1 2 = nI N) (x : Int32) : Ct l G mX7_roofFor 6 shT [.ref (ad G 0), .int x] σ (drQ σ N 16 (opR (vw 1 σ)) x) := by
  refine ct_intro (by decide) (Nat.le_of_ble_eq_true rfl) (fun X B R => ?_)
  show V X G shT σ [some (.ref (ad G 0)), some (.int x)] [] 0
  refine r_aload_n (pc := 0) B dX7_roofFor_0 rfl ?_
  refine r_iload_n (pc := 1) B dX7_roofFor_1 rfl ?_
  refine r_bipush (pc := 2) (x := 20) B dX7_roofFor_2 (by decide) ?_
  refine r_bipush (pc := 4) (x := 16) B dX7_roofFor_4 (by decide) ?_
  refine r_cV (pc := 6) (As := [.int x, .int 20, .int (nI 16)]) (C := yX7_driest.cls) B KX7_178 (c_driest l G _ hN8 hN x 20 (M := 16) (by omega) (opR (vw 1 σ)) (ch_R l G hN8)) (by decide) rfl rfl rfl (Nat.le_of_ble_eq_true rfl) dX7_roofFor_6 (fun r τ hq => ?_)
  have hr : ∃ v, r = some (.int v) := by rcases hq with ⟨-, h, -⟩ | ⟨u, -, -, ⟨-, h, -⟩ | ⟨-, h, -⟩⟩ <;> exact ⟨_, h⟩
  obtain ⟨v, rfl⟩ := hr
  exact r_iret (pc := 9) B R dX7_roofFor_9 hq
set_option maxHeartbeats 4000000 in
set_option maxRecDepth 20000 in
theorem c_waitFor (l : Launch) (G : GG) (σ : Sg) {N : Nat} (hN8 : N ≤ 8) (hN : σ 1 2 = nI N) (x : Int32) : Ct l G mX7_waitFor 6 shT [.ref (ad G 0), .int x] σ (drQ σ N 12 (opW (vw 1 σ)) x) := by
  refine ct_intro (by decide) (Nat.le_of_ble_eq_true rfl) (fun X B R => ?_)
  show V X G shT σ [some (.ref (ad G 0)), some (.int x)] [] 0
  refine r_aload_n (pc := 0) B dX7_waitFor_0 rfl ?_
  refine r_iload_n (pc := 1) B dX7_waitFor_1 rfl ?_
  refine r_bipush (pc := 2) (x := 21) B dX7_waitFor_2 (by decide) ?_
  refine r_bipush (pc := 4) (x := 12) B dX7_waitFor_4 (by decide) ?_
  refine r_cV (pc := 6) (As := [.int x, .int 21, .int (nI 12)]) (C := yX7_driest.cls) B KX7_178 (c_driest l G _ hN8 hN x 21 (M := 12) (by omega) (opW (vw 1 σ)) (ch_W l G hN8)) (by decide) rfl rfl rfl (Nat.le_of_ble_eq_true rfl) dX7_waitFor_6 (fun r τ hq => ?_)
  have hr : ∃ v, r = some (.int v) := by rcases hq with ⟨-, h, -⟩ | ⟨u, -, -, ⟨-, h, -⟩ | ⟨-, h, -⟩⟩ <;> exact ⟨_, h⟩
  obtain ⟨v, rfl⟩ := hr
  exact r_iret (pc := 9) B R dX7_waitFor_9 hq
set_option maxHeartbeats 4000000 in
set_option maxRecDepth 20000 in
theorem c_gustFor (l : Launch) (G : GG) (σ : Sg) {N : Nat} (hN8 : N ≤ 8) (hN : σ 1 2 = nI N) (x : Int32) : Ct l G mX7_gustFor 5 shT [.ref (ad G 0), .int x] σ (fun r τ => (¬ umbP σ x ∧ fQ σ 0 r τ) ∨ ∃ u, u < N ∧ x = nI u ∧ ((gfN (vw 1 σ) u 100 = none ∧ fW σ 3 r τ) ∨ ∃ g, gfN (vw 1 σ) u 100 = some g ∧ r = some (.int (nI g)) ∧ wkO σ τ)) := by
  refine ct_intro (by decide) (Nat.le_of_ble_eq_true rfl) (fun X B R => ?_)
  show V X G shT σ [some (.ref (ad G 0)), some (.int x), none] [] 0
  refine r_aload_n (pc := 0) B dX7_gustFor_0 rfl ?_
  refine r_iload_n (pc := 1) B dX7_gustFor_1 rfl ?_
  refine r_cVi1 (pc := 2) B KX7_111 (c_isUmbrella l G _ _) rfl rfl (by decide) (Nat.le_of_ble_eq_true rfl) dX7_gustFor_2 ?_
  refine r_if_ne (pc := 5) B 14 dX7_gustFor_5 (by decide) (fun h5 => ?_) (fun h5 => ?_)
  · skip
    obtain ⟨u, hu1, hu2⟩ := umb_nI hN8 hN (bI_n.mp h5)
    refine r_bipush (pc := 14) (x := 99) B dX7_gustFor_14 (by decide) ?_
    refine r_istore_2 (pc := 16) B dX7_gustFor_16 (by decide) rfl ?_
    have hL17 : ∀ (n : Nat) (ρ : Sg), n ≤ 100 → wkO σ ρ → gfN (vw 1 σ) u 100 = gfN (vw 1 σ) u n → V X G shT ρ [some (.ref (ad G 0)), some (.int x), some (.int (nI n - 1))] [] 17 := by
      intro n
      induction n with
      | zero =>
        intro ρ hi hw hp
        refine r_iload_n (pc := 17) B dX7_gustFor_17 rfl ?_
        refine r_if_lt (pc := 18) B 55 dX7_gustFor_18 (by decide) (fun h18 => ?_) (fun h18 => ?_)
        · skip
          refine r_aload_n (pc := 55) B dX7_gustFor_55 rfl ?_
          refine r_iconst (pc := 56) (x := 3) B dX7_gustFor_56 (by decide) ?_
          refine r_cVi1 (pc := 57) B KX7_64 (c_finding l G _ 3 (ix_of 3 rfl)) rfl rfl (by decide) (Nat.le_of_ble_eq_true rfl) dX7_gustFor_57 ?_
          exact r_iret (pc := 60) B R dX7_gustFor_60 (Or.inr ⟨u, hu1, hu2, Or.inl ⟨hp, rfl, _, hw, rfl⟩⟩)
        · skip
          exact absurd (by decide) h18
      | succ n ih =>
        intro ρ hi hw hp
        rw [nI_pred]
        have hz : ρ 1 2 = nI N := by rw [hw 1 (by omega)]; exact hN
        obtain ⟨hk1, hk2⟩ := swk_is (u := u) (by omega) hw
        refine r_iload_n (pc := 17) B dX7_gustFor_17 rfl ?_
        refine r_if_lt (pc := 18) B 55 dX7_gustFor_18 (by decide) (fun h18 => ?_) (fun h18 => ?_)
        · skip
          exact absurd h18 (nI_pos (by omega))
        · skip
          refine r_aload_n (pc := 21) B dX7_gustFor_21 rfl ?_
          refine r_iload_n (pc := 22) B dX7_gustFor_22 rfl ?_
          rw [hu2]
          refine r_cVv1 (pc := 23) B KX7_158 (c_startWalk l G _ hN8 hz hu1) rfl rfl (by decide) (Nat.le_of_ble_eq_true rfl) dX7_gustFor_23 ?_
          refine r_aload_n (pc := 26) B dX7_gustFor_26 rfl ?_
          refine r_getr (pc := 27) B FX7_29 rfl rfl dX7_gustFor_27 ?_
          refine r_getr (pc := 30) B FX7_181 rfl rfl dX7_gustFor_30 ?_
          refine r_iload_n (pc := 33) B dX7_gustFor_33 rfl ?_
          refine r_puti (pc := 34) B PX7_98 rfl rfl dX7_gustFor_34 ?_
          refine r_aload_n (pc := 37) B dX7_gustFor_37 rfl ?_
          refine r_getr (pc := 38) B FX7_29 rfl rfl dX7_gustFor_38 ?_
          refine r_cVpi0 (pc := 41) B KX7_182 (c_chW l G (hk1.gust (nI n))) rfl rfl (by decide) (Nat.le_of_ble_eq_true rfl) dX7_gustFor_41 (fun ρ2 hq => ?_)
          refine r_if_eq (pc := 44) B 49 dX7_gustFor_44 (by decide) (fun h44 => ?_) (fun h44 => ?_)
          · skip
            refine r_iinc_2 (pc := 49) (y := _ + (-1)) B dX7_gustFor_49 rfl (by decide) rfl ?_
            refine r_goto (pc := 52) B 17 dX7_gustFor_52 (by decide) ?_
            rw [show nI n + (-1) = nI n - 1 from (Int32.sub_eq_add_neg _ _).symm, ← hu2]
            exact ih _ (by omega) ((st2_wkO hk2 (by omega)).tr hq) (by rw [hp, gfN, if_pos h44])
          · skip
            refine r_iload_n (pc := 47) B dX7_gustFor_47 rfl ?_
            exact r_iret (pc := 48) B R dX7_gustFor_48 (Or.inr ⟨u, hu1, hu2, Or.inr ⟨n, by rw [hp, gfN, if_neg h44], rfl, (st2_wkO hk2 (by omega)).tr hq⟩⟩)
    exact hL17 100 σ (by omega) (wkO.rf σ) rfl
  · skip
    refine r_aload_n (pc := 8) B dX7_gustFor_8 rfl ?_
    refine r_iconst (pc := 9) (x := 0) B dX7_gustFor_9 (by decide) ?_
    refine r_cVi1 (pc := 10) B KX7_64 (c_finding l G _ 0 (ix_of 0 rfl)) rfl rfl (by decide) (Nat.le_of_ble_eq_true rfl) dX7_gustFor_10 ?_
    exact r_iret (pc := 13) B R dX7_gustFor_13 (Or.inl ⟨fun q => bI_0.mp h5 q, rfl, rfl⟩)
set_option maxHeartbeats 4000000 in
set_option maxRecDepth 20000 in
theorem c_ribsFor (l : Launch) (G : GG) (σ : Sg) {N : Nat} (hN8 : N ≤ 8) (hN : σ 1 2 = nI N) (x : Int32) : Ct l G mX7_ribsFor 5 shT [.ref (ad G 0), .int x] σ (fun r τ => (¬ umbP σ x ∧ fQ σ 0 r τ) ∨ ∃ u, u < N ∧ x = nI u ∧ ((rfN (vw 1 σ) u 9 0 = none ∧ fW σ 3 r τ) ∨ ∃ g, g ≤ 8 ∧ rfN (vw 1 σ) u 9 0 = some g ∧ r = some (.int (nI g)) ∧ wkO σ τ)) := by
  refine ct_intro (by decide) (Nat.le_of_ble_eq_true rfl) (fun X B R => ?_)
  show V X G shT σ [some (.ref (ad G 0)), some (.int x), none] [] 0
  refine r_aload_n (pc := 0) B dX7_ribsFor_0 rfl ?_
  refine r_iload_n (pc := 1) B dX7_ribsFor_1 rfl ?_
  refine r_cVi1 (pc := 2) B KX7_111 (c_isUmbrella l G _ _) rfl rfl (by decide) (Nat.le_of_ble_eq_true rfl) dX7_ribsFor_2 ?_
  refine r_if_ne (pc := 5) B 14 dX7_ribsFor_5 (by decide) (fun h5 => ?_) (fun h5 => ?_)
  · skip
    obtain ⟨u, hu1, hu2⟩ := umb_nI hN8 hN (bI_n.mp h5)
    refine r_iconst (pc := 14) (x := 0) B dX7_ribsFor_14 (by decide) ?_
    refine r_istore_2 (pc := 15) B dX7_ribsFor_15 (by decide) rfl ?_
    have hL16 : ∀ (n i : Nat) (ρ : Sg), i + n = 9 → wkO σ ρ → rfN (vw 1 σ) u 9 0 = rfN (vw 1 σ) u n i → V X G shT ρ [some (.ref (ad G 0)), some (.int x), some (.int (nI i))] [] 16 := by
      intro n
      induction n with
      | zero =>
        intro i ρ hi hw hp
        have ei : i = 9 := by omega
        subst ei
        refine r_iload_n (pc := 16) B dX7_ribsFor_16 rfl ?_
        refine r_gs (pc := 17) B q330 dX7_ribsFor_17 ?_
        refine r_iconst (pc := 20) (x := 4) B dX7_ribsFor_20 (by decide) ?_
        refine r_tg (pc := 21) (v := 8) B 4 (ix_of 4 rfl) rfl dX7_ribsFor_21 ?_
        refine r_icmp_gt (pc := 22) B 59 dX7_ribsFor_22 (by decide) (fun h22 => ?_) (fun h22 => ?_)
        · skip
          refine r_aload_n (pc := 59) B dX7_ribsFor_59 rfl ?_
          refine r_iconst (pc := 60) (x := 3) B dX7_ribsFor_60 (by decide) ?_
          refine r_cVi1 (pc := 61) B KX7_64 (c_finding l G _ 3 (ix_of 3 rfl)) rfl rfl (by decide) (Nat.le_of_ble_eq_true rfl) dX7_ribsFor_61 ?_
          exact r_iret (pc := 64) B R dX7_ribsFor_64 (Or.inr ⟨u, hu1, hu2, Or.inl ⟨hp, rfl, _, hw, rfl⟩⟩)
        · skip
          exact absurd (by decide) h22
      | succ n ih =>
        intro i ρ hi hw hp
        have hz : ρ 1 2 = nI N := by rw [hw 1 (by omega)]; exact hN
        obtain ⟨hk1, hk2⟩ := swk_is (u := u) (by omega) hw
        refine r_iload_n (pc := 16) B dX7_ribsFor_16 rfl ?_
        refine r_gs (pc := 17) B q330 dX7_ribsFor_17 ?_
        refine r_iconst (pc := 20) (x := 4) B dX7_ribsFor_20 (by decide) ?_
        refine r_tg (pc := 21) (v := 8) B 4 (ix_of 4 rfl) rfl dX7_ribsFor_21 ?_
        refine r_icmp_gt (pc := 22) B 59 dX7_ribsFor_22 (by decide) (fun h22 => ?_) (fun h22 => ?_)
        · skip
          exact absurd ((nI_ltI (a := 8) (by omega) (by omega)).mp h22) (by omega)
        · skip
          refine r_aload_n (pc := 25) B dX7_ribsFor_25 rfl ?_
          refine r_iload_n (pc := 26) B dX7_ribsFor_26 rfl ?_
          rw [hu2]
          refine r_cVv1 (pc := 27) B KX7_158 (c_startWalk l G _ hN8 hz hu1) rfl rfl (by decide) (Nat.le_of_ble_eq_true rfl) dX7_ribsFor_27 ?_
          refine r_aload_n (pc := 30) B dX7_ribsFor_30 rfl ?_
          refine r_getr (pc := 31) B FX7_29 rfl rfl dX7_ribsFor_31 ?_
          refine r_getr (pc := 34) B FX7_165 rfl rfl dX7_ribsFor_34 ?_
          refine r_iload_n (pc := 37) B dX7_ribsFor_37 rfl ?_
          refine r_puti (pc := 38) B PX7_185 rfl rfl dX7_ribsFor_38 ?_
          refine r_aload_n (pc := 41) B dX7_ribsFor_41 rfl ?_
          refine r_getr (pc := 42) B FX7_29 rfl rfl dX7_ribsFor_42 ?_
          refine r_cVpi0 (pc := 45) B KX7_182 (c_chW l G (hk1.mark 4 (nI i))) rfl rfl (by decide) (Nat.le_of_ble_eq_true rfl) dX7_ribsFor_45 (fun ρ2 hq => ?_)
          refine r_if_eq (pc := 48) B 53 dX7_ribsFor_48 (by decide) (fun h48 => ?_) (fun h48 => ?_)
          · skip
            refine r_iinc_2 (pc := 53) (y := _ + 1) B dX7_ribsFor_53 rfl (by decide) rfl ?_
            refine r_goto (pc := 56) B 16 dX7_ribsFor_56 (by decide) ?_
            rw [nI_1, ← hu2]
            exact ih (i + 1) _ (by omega) ((st2_wkO hk2 (by omega)).tr hq) (by rw [hp, rfN, if_pos h48])
          · skip
            refine r_iload_n (pc := 51) B dX7_ribsFor_51 rfl ?_
            exact r_iret (pc := 52) B R dX7_ribsFor_52 (Or.inr ⟨u, hu1, hu2, Or.inr ⟨i, by omega, by rw [hp, rfN, if_neg h48], rfl, (st2_wkO hk2 (by omega)).tr hq⟩⟩)
    exact hL16 9 0 σ (by omega) (wkO.rf σ) rfl
  · skip
    refine r_aload_n (pc := 8) B dX7_ribsFor_8 rfl ?_
    refine r_iconst (pc := 9) (x := 0) B dX7_ribsFor_9 (by decide) ?_
    refine r_cVi1 (pc := 10) B KX7_64 (c_finding l G _ 0 (ix_of 0 rfl)) rfl rfl (by decide) (Nat.le_of_ble_eq_true rfl) dX7_ribsFor_10 ?_
    exact r_iret (pc := 13) B R dX7_ribsFor_13 (Or.inl ⟨fun q => bI_0.mp h5 q, rfl, rfl⟩)

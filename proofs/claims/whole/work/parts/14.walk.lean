/-! one TICK of an umbrella that is on the street -/
def jn (j : Nat) : Nat := if j + 1 ≤ 15 then j + 1 else 15
theorem mn_next {j : Nat} (h : j < 16) : mn 15 (nI j + 1) = nI (jn j) := by
  rw [nI_1]
  unfold mn jn
  by_cases q : j + 1 ≤ 15
  · rw [if_pos q]
    by_cases e : j + 1 = 15
    · rw [e]; rfl
    · rw [if_pos (show nI (j + 1) < 15 from (nI_ltI (b := 15) (by omega) (by omega)).mpr (by omega))]
  · rw [if_neg q, if_neg (show ¬ nI (j + 1) < 15 from fun z => by have := (nI_ltI (b := 15) (by omega) (by omega)).mp z; omega)]
    rfl
theorem jn_lt (j : Nat) : jn j < 16 := by unfold jn; split <;> omega
def hdG (fr sn ro : Nat → Int32) (g t : Int32) (u : Nat → Int32) (j : Nat) : Int32 := hbF (u 3) (u 2) (fr j) (fr (jn j)) (bI (¬ windF sn ro g t j ≤ bearF (stiffF u) (fr j) (fr j)))
def zG (fr sn ro : Nat → Int32) (g t : Int32) (u : Nat → Int32) (j : Nat) : Int32 := bI (¬ windF sn ro g t j ≤ bearF (stiffF u) (fr j) (hdG fr sn ro g t u j))
abbrev goG (fr sn ro : Nat → Int32) (g t : Int32) (u : Nat → Int32) (j : Nat) : Prop := goesP (u 5) (hdG fr sn ro g t u j) (zG fr sn ro g t u j)
def otG (fr sn ro : Nat → Int32) (g t : Int32) (u : Nat → Int32) (j : Nat) : Int32 := outF (u 5) (hdG fr sn ro g t u j) (fr j) (zG fr sn ro g t u j)
def goU (fr sn ro : Nat → Int32) (rain g t : Int32) (u : Nat → Int32) (j : Nat) (i : Nat) : Int32 :=
  if i = 1 then (if otG fr sn ro g t u j = 0 then mn 16 (u 1 + paceF t (u 0)) else u 1)
  else if i = 2 then hdG fr sn ro g t u j
  else if i = 4 then (if goG fr sn ro g t u j then mx 0 (u 4 - 1) else u 4)
  else if i = 5 then otG fr sn ro g t u j
  else if i = 6 then (if goG fr sn ro g t u j then mn 999 (u 6 + 1) else u 6)
  else if i = 7 then (if ro j = 0 then mn 99999 (u 7 + rain - (if hdG fr sn ro g t u j = 3 ∨ otG fr sn ro g t u j = 1 then 0 else covF rain t (u 0) (u 7))) else u 7)
  else u i
/-- the same with the street at S -/
abbrev goS (σ : Sg) (S U j : Nat) : Nat → Int32 := goU (σ (S + 1)) (σ (S + 2)) (σ (S + 3)) (σ S 3) (σ S 4) (σ S 5) (σ U) j
abbrev hdS (σ : Sg) (S U j : Nat) : Int32 := hdG (σ (S + 1)) (σ (S + 2)) (σ (S + 3)) (σ S 4) (σ S 5) (σ U) j
abbrev zS (σ : Sg) (S U j : Nat) : Int32 := zG (σ (S + 1)) (σ (S + 2)) (σ (S + 3)) (σ S 4) (σ S 5) (σ U) j
theorem U_S {U S : Nat} (hU : isU U) (hS : isS S) : S ≠ U ∧ S + 1 ≠ U ∧ S + 2 ≠ U ∧ S + 3 ≠ U := by
  unfold isU at hU; unfold isS at hS; omega
theorem tr_cl (σ : Sg) (U : Nat) (fr z : Int32) {a : Nat} (h : a ≠ U) : trF σ U fr z a = σ a := by simp [trF, st2_cl, h]
theorem tr_0 (σ : Sg) (U : Nat) (fr z : Int32) : trF σ U fr z U 0 = σ U 0 := by simp [trF, st2]
theorem tr_1 (σ : Sg) (U : Nat) (fr z : Int32) : trF σ U fr z U 1 = σ U 1 := by simp [trF, st2]
theorem tr_2 (σ : Sg) (U : Nat) (fr z : Int32) : trF σ U fr z U 2 = σ U 2 := by simp [trF, st2]
theorem tr_5 (σ : Sg) (U : Nat) (fr z : Int32) : trF σ U fr z U 5 = outF (σ U 5) (σ U 2) fr z := by simp [trF, st2]
theorem tr_7 (σ : Sg) (U : Nat) (fr z : Int32) : trF σ U fr z U 7 = σ U 7 := by simp [trF, st2]

set_option maxHeartbeats 4000000 in
set_option maxRecDepth 20000 in
theorem c_walkOnH (l : Launch) (G : GG) (σ : Sg) {U S : Nat} (hU : isU U) (hS : isS S) (ha : ¬ stepP (σ U 1)) : CtI l G mX4_walkOn 2 shT [.ref (ad G U), .ref (ad G S)] σ 0 σ := by
  refine ct_intro (by decide) (Nat.le_of_ble_eq_true rfl) (fun X B R => ?_)
  show V X G shT σ [some (.ref (ad G U)), some (.ref (ad G S)), none, none, none, none, none, none] [] 0
  refine r_aload_n (pc := 0) B dX4_walkOn_0 rfl ?_
  refine r_geti (pc := 1) B FX4_15 (shU hU) rfl dX4_walkOn_1 ?_
  refine r_cNi1 (pc := 4) B KX4_53 (c_isStep l G _ _ _) (by decide) (Nat.le_of_ble_eq_true rfl) dX4_walkOn_4 ?_
  refine r_if_ne (pc := 7) B 12 dX4_walkOn_7 (by decide) (fun h7 => ?_) (fun h7 => ?_)
  · skip
    exact absurd (bI_n.mp h7) ha
  · skip
    refine r_iconst (pc := 10) (x := 0) B dX4_walkOn_10 (by decide) ?_
    exact r_zret (pc := 11) B R (by first | decide | exact bI_01 _) dX4_walkOn_11 ⟨rfl, rfl⟩
set_option maxHeartbeats 4000000 in
set_option maxRecDepth 20000 in
theorem c_walkOn (l : Launch) (G : GG) (σ : Sg) {U S : Nat} (hU : isU U) (hS : isS S) {j : Nat} (hj : j < 16) (ha : σ U 1 = nI j) : CtI l G mX4_walkOn 2 shT [.ref (ad G U), .ref (ad G S)] σ (bI (goesP (σ U 5) (hdS σ S U j) (zS σ S U j))) (wrU σ U (goS σ S U j)) := by
  obtain ⟨n0, n1, n2, n3⟩ := U_S hU hS
  refine ct_intro (by decide) (Nat.le_of_ble_eq_true rfl) (fun X B R => ?_)
  show V X G shT σ [some (.ref (ad G U)), some (.ref (ad G S)), none, none, none, none, none, none] [] 0
  refine r_aload_n (pc := 0) B dX4_walkOn_0 rfl ?_
  refine r_geti (pc := 1) B FX4_15 (shU hU) rfl dX4_walkOn_1 ?_
  refine r_cNi1 (pc := 4) B KX4_53 (c_isStep l G _ _ _) (by decide) (Nat.le_of_ble_eq_true rfl) dX4_walkOn_4 ?_
  refine r_if_ne (pc := 7) B 12 dX4_walkOn_7 (by decide) (fun h7 => ?_) (fun h7 => ?_)
  · skip
    refine r_aload_n (pc := 12) B dX4_walkOn_12 rfl ?_
    refine r_getr (pc := 13) B FX4_57 (shS hS) rfl dX4_walkOn_13 ?_
    refine r_aload_n (pc := 16) B dX4_walkOn_16 rfl ?_
    refine r_geti (pc := 17) B FX4_15 (shU hU) rfl dX4_walkOn_17 ?_
    refine r_iald (pc := 20) B (shS1 hS) (ix_eq ha hj (by decide)) dX4_walkOn_20 ?_
    refine r_istore_2 (pc := 21) B dX4_walkOn_21 (by decide) rfl ?_
    refine r_aload_n (pc := 22) B dX4_walkOn_22 rfl ?_
    refine r_getr (pc := 23) B FX4_57 (shS hS) rfl dX4_walkOn_23 ?_
    refine r_bipush (pc := 26) (x := 15) B dX4_walkOn_26 (by decide) ?_
    refine r_aload_n (pc := 28) B dX4_walkOn_28 rfl ?_
    refine r_geti (pc := 29) B FX4_15 (shU hU) rfl dX4_walkOn_29 ?_
    refine r_iconst (pc := 32) (x := 1) B dX4_walkOn_32 (by decide) ?_
    refine r_iadd (pc := 33) B dX4_walkOn_33 ?_
    refine r_mn (pc := 34) B q318 ⟨q319, q11, q320⟩ (by decide) (Nat.le_of_ble_eq_true rfl) dX4_walkOn_34 ?_
    refine r_iald (pc := 37) B (shS1 hS) (ix_eq (by rw [ha]; exact mn_next hj) (jn_lt j) (by decide)) dX4_walkOn_37 ?_
    refine r_istore_3 (pc := 38) B dX4_walkOn_38 (by decide) rfl ?_
    refine r_aload_n (pc := 39) B dX4_walkOn_39 rfl ?_
    refine r_aload_n (pc := 40) B dX4_walkOn_40 rfl ?_
    refine r_geti (pc := 41) B FX4_15 (shU hU) rfl dX4_walkOn_41 ?_
    rw [ha]
    refine r_cVi1 (pc := 44) B KX4_61 (c_windOn l G _ hS hj) (shS hS) rfl (by decide) (Nat.le_of_ble_eq_true rfl) dX4_walkOn_44 ?_
    refine r_istore_4 (pc := 47) B dX4_walkOn_47 (by decide) rfl ?_
    refine r_aload_n (pc := 49) B dX4_walkOn_49 rfl ?_
    refine r_cVi0 (pc := 50) B KX4_65 (c_stiff l G _ hU) (shU hU) rfl (by decide) (Nat.le_of_ble_eq_true rfl) dX4_walkOn_50 ?_
    refine r_istore_5 (pc := 53) B dX4_walkOn_53 (by decide) rfl ?_
    refine r_aload_n (pc := 55) B dX4_walkOn_55 rfl ?_
    refine r_iload_n (pc := 56) B dX4_walkOn_56 rfl ?_
    refine r_iload_n (pc := 57) B dX4_walkOn_57 rfl ?_
    refine r_iload (pc := 58) B dX4_walkOn_58 rfl ?_
    refine r_iload (pc := 60) B dX4_walkOn_60 rfl ?_
    refine r_iload_n (pc := 62) B dX4_walkOn_62 rfl ?_
    refine r_iload_n (pc := 63) B dX4_walkOn_63 rfl ?_
    refine r_cSi3 (pc := 64) B KX4_69 (c_bearable l G _ _ _ _ _) (by decide) (Nat.le_of_ble_eq_true rfl) dX4_walkOn_64 ?_
    refine r_bz_icmp_le (pc := 67) B dX4_walkOn_67 dX4_walkOn_70 dX4_walkOn_71 dX4_walkOn_74 ?_
    refine r_cVv3 (pc := 75) B KX4_73 (c_holdByHabit l G _ hU _ _ _) (shU hU) rfl (by decide) (Nat.le_of_ble_eq_true rfl) dX4_walkOn_75 ?_
    show V X G shT (st2 σ U 2 (hdS σ S U j)) _ _ _
    obtain ⟨A, hA⟩ : ∃ A, A = hdS σ S U j := ⟨_, rfl⟩
    rw [← hA]
    refine r_aload_n (pc := 78) B dX4_walkOn_78 rfl ?_
    refine r_iload_n (pc := 79) B dX4_walkOn_79 rfl ?_
    refine r_iload (pc := 80) B dX4_walkOn_80 rfl ?_
    refine r_iload (pc := 82) B dX4_walkOn_82 rfl ?_
    refine r_iload_n (pc := 84) B dX4_walkOn_84 rfl ?_
    refine r_aload_n (pc := 85) B dX4_walkOn_85 rfl ?_
    refine r_geti (pc := 86) B FX4_18 (shU hU) rfl dX4_walkOn_86 ?_
    rw [st2_at]
    refine r_cSi3 (pc := 89) B KX4_69 (c_bearable l G _ _ _ _ _) (by decide) (Nat.le_of_ble_eq_true rfl) dX4_walkOn_89 ?_
    refine r_bz_icmp_le (pc := 92) B dX4_walkOn_92 dX4_walkOn_95 dX4_walkOn_96 dX4_walkOn_99 ?_
    rw [show bI (¬ windF (σ (S + 2)) (σ (S + 3)) (σ S 4) (σ S 5) j ≤ bearF (stiffF (σ U)) (σ (S + 1) j) A) = zS σ S U j by rw [hA]; rfl]
    obtain ⟨z, hz⟩ : ∃ z, z = zS σ S U j := ⟨_, rfl⟩
    rw [← hz]
    refine r_cVi2 (pc := 100) B KX4_77 (c_turn l G _ hU _ _) (shU hU) rfl (by decide) (Nat.le_of_ble_eq_true rfl) dX4_walkOn_100 ?_
    rw [st2_at, st2_fd _ _ _ _ (show (5 : Nat) ≠ 2 by decide)]
    obtain ⟨ρ, hρ⟩ : ∃ ρ, ρ = trF (st2 σ U 2 A) U (σ (S + 1) j) z := ⟨_, rfl⟩
    rw [← hρ]
    have e1 : ρ U 1 = nI j := by rw [hρ, tr_1, st2_fd _ _ _ _ (by decide), ha]
    have e2 : ρ U 2 = A := by rw [hρ, tr_2, st2_at]
    have e5 : ρ U 5 = outF (σ U 5) A (σ (S + 1) j) z := by rw [hρ, tr_5, st2_at, st2_fd _ _ _ _ (by decide)]
    have e0 : ρ U 0 = σ U 0 := by rw [hρ, tr_0, st2_fd _ _ _ _ (by decide)]
    have e7 : ρ U 7 = σ U 7 := by rw [hρ, tr_7, st2_fd _ _ _ _ (by decide)]
    have eS : ρ S = σ S := by rw [hρ, tr_cl _ _ _ _ n0, st2_cl _ _ _ _ n0]
    have eR : ρ (S + 3) = σ (S + 3) := by rw [hρ, tr_cl _ _ _ _ n3, st2_cl _ _ _ _ n3]
    refine r_istore_6 (pc := 103) B dX4_walkOn_103 (by decide) rfl ?_
    refine r_aload_n (pc := 105) B dX4_walkOn_105 rfl ?_
    refine r_getr (pc := 106) B FX4_81 (shS hS) rfl dX4_walkOn_106 ?_
    refine r_aload_n (pc := 109) B dX4_walkOn_109 rfl ?_
    refine r_geti (pc := 110) B FX4_15 (shU hU) rfl dX4_walkOn_110 ?_
    refine r_iald (pc := 113) B (shS3 hS) (ix_eq e1 hj (by decide)) dX4_walkOn_113 ?_
    rw [eR]
    refine r_if_ne (pc := 114) B 169 dX4_walkOn_114 (by decide) (fun h114 => ?_) (fun h114 => ?_)
    · skip
      refine r_aload_n (pc := 169) B dX4_walkOn_169 rfl ?_
      refine r_geti (pc := 170) B FX4_27 (shU hU) rfl dX4_walkOn_170 ?_
      try rw [st2_fd _ _ _ _ (show (5 : Nat) ≠ 7 by decide)]
      rw [e5]
      refine r_if_ne (pc := 173) B 198 dX4_walkOn_173 (by decide) (fun h173 => ?_) (fun h173 => ?_)
      · skip
        refine r_iload (pc := 198) B dX4_walkOn_198 rfl ?_
        exact r_zret (pc := 200) B R (by first | decide | exact bI_01 _) dX4_walkOn_200 ⟨by rw [← hA, ← hz], by clear B R X e0 e1 e2 e5 e7 eS eR; rw [hρ]; funext a b; simp only [wrU, goU, otG, goG, ← hA, ← hz, trF, st2]; clear hA hz hρ; grind (splits := 30)⟩
      · skip
        refine r_aload_n (pc := 176) B dX4_walkOn_176 rfl ?_
        refine r_bipush (pc := 177) (x := 16) B dX4_walkOn_177 (by decide) ?_
        refine r_aload_n (pc := 179) B dX4_walkOn_179 rfl ?_
        refine r_geti (pc := 180) B FX4_15 (shU hU) rfl dX4_walkOn_180 ?_
        try rw [st2_fd _ _ _ _ (show (1 : Nat) ≠ 7 by decide)]
        rw [e1, ← ha]
        refine r_aload_n (pc := 183) B dX4_walkOn_183 rfl ?_
        refine r_aload_n (pc := 184) B dX4_walkOn_184 rfl ?_
        refine r_geti (pc := 185) B FX4_50 (shS hS) rfl dX4_walkOn_185 ?_
        try rw [st2_cl _ _ _ _ n0]
        rw [eS]
        refine r_cVi1 (pc := 188) B KX4_91 (c_pace l G _ hU _) (shU hU) rfl (by decide) (Nat.le_of_ble_eq_true rfl) dX4_walkOn_188 ?_
        try rw [st2_fd _ _ _ _ (show (0 : Nat) ≠ 7 by decide)]
        rw [e0]
        refine r_iadd (pc := 191) B dX4_walkOn_191 ?_
        refine r_mn (pc := 192) B q318 ⟨q319, q11, q320⟩ (by decide) (Nat.le_of_ble_eq_true rfl) dX4_walkOn_192 ?_
        refine r_puti (pc := 195) B PX4_15 (shU hU) rfl dX4_walkOn_195 ?_
        refine r_iload (pc := 198) B dX4_walkOn_198 rfl ?_
        exact r_zret (pc := 200) B R (by first | decide | exact bI_01 _) dX4_walkOn_200 ⟨by rw [← hA, ← hz], by clear B R X e0 e1 e2 e5 e7 eS eR; rw [hρ]; funext a b; simp only [wrU, goU, otG, goG, ← hA, ← hz, trF, st2]; clear hA hz hρ; grind (splits := 30)⟩
    · skip
      refine r_aload_n (pc := 117) B dX4_walkOn_117 rfl ?_
      refine r_geti (pc := 118) B FX4_18 (shU hU) rfl dX4_walkOn_118 ?_
      rw [e2]
      refine r_iconst (pc := 121) (x := 3) B dX4_walkOn_121 (by decide) ?_
      refine r_icmp_eq (pc := 122) B 133 dX4_walkOn_122 (by decide) (fun h122 => ?_) (fun h122 => ?_)
      · skip
        refine r_iconst (pc := 133) (x := 0) B dX4_walkOn_133 (by decide) ?_
        refine r_goto (pc := 134) B 142 dX4_walkOn_134 (by decide) ?_
        refine r_istore_7 (pc := 142) B dX4_walkOn_142 (by decide) rfl ?_
        refine r_aload_n (pc := 144) B dX4_walkOn_144 rfl ?_
        refine r_gsN (pc := 145) B (by decide +kernel) dX4_walkOn_145 ?_
        refine r_bipush (pc := 148) (x := 7) B dX4_walkOn_148 (by decide) ?_
        refine r_tg (pc := 150) (v := 99999) B 7 (ix_of 7 rfl) rfl dX4_walkOn_150 ?_
        refine r_aload_n (pc := 151) B dX4_walkOn_151 rfl ?_
        refine r_geti (pc := 152) B FX4_33 (shU hU) rfl dX4_walkOn_152 ?_
        rw [e7]
        refine r_aload_n (pc := 155) B dX4_walkOn_155 rfl ?_
        refine r_geti (pc := 156) B FX4_42 (shS hS) rfl dX4_walkOn_156 ?_
        rw [eS]
        refine r_iadd (pc := 159) B dX4_walkOn_159 ?_
        refine r_iload (pc := 160) B dX4_walkOn_160 rfl ?_
        refine r_isub (pc := 162) B dX4_walkOn_162 ?_
        refine r_mn (pc := 163) B q318 ⟨q319, q11, q320⟩ (by decide) (Nat.le_of_ble_eq_true rfl) dX4_walkOn_163 ?_
        refine r_puti (pc := 166) B PX4_33 (shU hU) rfl dX4_walkOn_166 ?_
        refine r_aload_n (pc := 169) B dX4_walkOn_169 rfl ?_
        refine r_geti (pc := 170) B FX4_27 (shU hU) rfl dX4_walkOn_170 ?_
        try rw [st2_fd _ _ _ _ (show (5 : Nat) ≠ 7 by decide)]
        rw [e5]
        refine r_if_ne (pc := 173) B 198 dX4_walkOn_173 (by decide) (fun h173 => ?_) (fun h173 => ?_)
        · skip
          refine r_iload (pc := 198) B dX4_walkOn_198 rfl ?_
          exact r_zret (pc := 200) B R (by first | decide | exact bI_01 _) dX4_walkOn_200 ⟨by rw [← hA, ← hz], by clear B R X e0 e1 e2 e5 e7 eS eR; rw [hρ]; funext a b; simp only [wrU, goU, otG, goG, ← hA, ← hz, trF, st2]; clear hA hz hρ; grind (splits := 30)⟩
        · skip
          refine r_aload_n (pc := 176) B dX4_walkOn_176 rfl ?_
          refine r_bipush (pc := 177) (x := 16) B dX4_walkOn_177 (by decide) ?_
          refine r_aload_n (pc := 179) B dX4_walkOn_179 rfl ?_
          refine r_geti (pc := 180) B FX4_15 (shU hU) rfl dX4_walkOn_180 ?_
          try rw [st2_fd _ _ _ _ (show (1 : Nat) ≠ 7 by decide)]
          rw [e1, ← ha]
          refine r_aload_n (pc := 183) B dX4_walkOn_183 rfl ?_
          refine r_aload_n (pc := 184) B dX4_walkOn_184 rfl ?_
          refine r_geti (pc := 185) B FX4_50 (shS hS) rfl dX4_walkOn_185 ?_
          try rw [st2_cl _ _ _ _ n0]
          rw [eS]
          refine r_cVi1 (pc := 188) B KX4_91 (c_pace l G _ hU _) (shU hU) rfl (by decide) (Nat.le_of_ble_eq_true rfl) dX4_walkOn_188 ?_
          try rw [st2_fd _ _ _ _ (show (0 : Nat) ≠ 7 by decide)]
          rw [e0]
          refine r_iadd (pc := 191) B dX4_walkOn_191 ?_
          refine r_mn (pc := 192) B q318 ⟨q319, q11, q320⟩ (by decide) (Nat.le_of_ble_eq_true rfl) dX4_walkOn_192 ?_
          refine r_puti (pc := 195) B PX4_15 (shU hU) rfl dX4_walkOn_195 ?_
          refine r_iload (pc := 198) B dX4_walkOn_198 rfl ?_
          exact r_zret (pc := 200) B R (by first | decide | exact bI_01 _) dX4_walkOn_200 ⟨by rw [← hA, ← hz], by clear B R X e0 e1 e2 e5 e7 eS eR; rw [hρ]; funext a b; simp only [wrU, goU, otG, goG, ← hA, ← hz, trF, st2]; clear hA hz hρ; grind (splits := 30)⟩
      · skip
        refine r_aload_n (pc := 125) B dX4_walkOn_125 rfl ?_
        refine r_geti (pc := 126) B FX4_27 (shU hU) rfl dX4_walkOn_126 ?_
        rw [e5]
        refine r_iconst (pc := 129) (x := 1) B dX4_walkOn_129 (by decide) ?_
        refine r_icmp_ne (pc := 130) B 137 dX4_walkOn_130 (by decide) (fun h130 => ?_) (fun h130 => ?_)
        · skip
          refine r_aload_n (pc := 137) B dX4_walkOn_137 rfl ?_
          refine r_aload_n (pc := 138) B dX4_walkOn_138 rfl ?_
          refine r_cVi1 (pc := 139) B KX4_84 (c_covers l G _ hU hS) (shU hU) rfl (by decide) (Nat.le_of_ble_eq_true rfl) dX4_walkOn_139 ?_
          rw [e0, e7, eS]
          refine r_istore_7 (pc := 142) B dX4_walkOn_142 (by decide) rfl ?_
          refine r_aload_n (pc := 144) B dX4_walkOn_144 rfl ?_
          refine r_gsN (pc := 145) B (by decide +kernel) dX4_walkOn_145 ?_
          refine r_bipush (pc := 148) (x := 7) B dX4_walkOn_148 (by decide) ?_
          refine r_tg (pc := 150) (v := 99999) B 7 (ix_of 7 rfl) rfl dX4_walkOn_150 ?_
          refine r_aload_n (pc := 151) B dX4_walkOn_151 rfl ?_
          refine r_geti (pc := 152) B FX4_33 (shU hU) rfl dX4_walkOn_152 ?_
          rw [e7]
          refine r_aload_n (pc := 155) B dX4_walkOn_155 rfl ?_
          refine r_geti (pc := 156) B FX4_42 (shS hS) rfl dX4_walkOn_156 ?_
          rw [eS]
          refine r_iadd (pc := 159) B dX4_walkOn_159 ?_
          refine r_iload (pc := 160) B dX4_walkOn_160 rfl ?_
          refine r_isub (pc := 162) B dX4_walkOn_162 ?_
          refine r_mn (pc := 163) B q318 ⟨q319, q11, q320⟩ (by decide) (Nat.le_of_ble_eq_true rfl) dX4_walkOn_163 ?_
          refine r_puti (pc := 166) B PX4_33 (shU hU) rfl dX4_walkOn_166 ?_
          refine r_aload_n (pc := 169) B dX4_walkOn_169 rfl ?_
          refine r_geti (pc := 170) B FX4_27 (shU hU) rfl dX4_walkOn_170 ?_
          try rw [st2_fd _ _ _ _ (show (5 : Nat) ≠ 7 by decide)]
          rw [e5]
          refine r_if_ne (pc := 173) B 198 dX4_walkOn_173 (by decide) (fun h173 => ?_) (fun h173 => ?_)
          · skip
            refine r_iload (pc := 198) B dX4_walkOn_198 rfl ?_
            exact r_zret (pc := 200) B R (by first | decide | exact bI_01 _) dX4_walkOn_200 ⟨by rw [← hA, ← hz], by clear B R X e0 e1 e2 e5 e7 eS eR; rw [hρ]; funext a b; simp only [wrU, goU, otG, goG, ← hA, ← hz, trF, st2]; clear hA hz hρ; grind (splits := 30)⟩
          · skip
            refine r_aload_n (pc := 176) B dX4_walkOn_176 rfl ?_
            refine r_bipush (pc := 177) (x := 16) B dX4_walkOn_177 (by decide) ?_
            refine r_aload_n (pc := 179) B dX4_walkOn_179 rfl ?_
            refine r_geti (pc := 180) B FX4_15 (shU hU) rfl dX4_walkOn_180 ?_
            try rw [st2_fd _ _ _ _ (show (1 : Nat) ≠ 7 by decide)]
            rw [e1, ← ha]
            refine r_aload_n (pc := 183) B dX4_walkOn_183 rfl ?_
            refine r_aload_n (pc := 184) B dX4_walkOn_184 rfl ?_
            refine r_geti (pc := 185) B FX4_50 (shS hS) rfl dX4_walkOn_185 ?_
            try rw [st2_cl _ _ _ _ n0]
            rw [eS]
            refine r_cVi1 (pc := 188) B KX4_91 (c_pace l G _ hU _) (shU hU) rfl (by decide) (Nat.le_of_ble_eq_true rfl) dX4_walkOn_188 ?_
            try rw [st2_fd _ _ _ _ (show (0 : Nat) ≠ 7 by decide)]
            rw [e0]
            refine r_iadd (pc := 191) B dX4_walkOn_191 ?_
            refine r_mn (pc := 192) B q318 ⟨q319, q11, q320⟩ (by decide) (Nat.le_of_ble_eq_true rfl) dX4_walkOn_192 ?_
            refine r_puti (pc := 195) B PX4_15 (shU hU) rfl dX4_walkOn_195 ?_
            refine r_iload (pc := 198) B dX4_walkOn_198 rfl ?_
            exact r_zret (pc := 200) B R (by first | decide | exact bI_01 _) dX4_walkOn_200 ⟨by rw [← hA, ← hz], by clear B R X e0 e1 e2 e5 e7 eS eR; rw [hρ]; funext a b; simp only [wrU, goU, otG, goG, ← hA, ← hz, trF, st2]; clear hA hz hρ; grind (splits := 30)⟩
        · skip
          refine r_iconst (pc := 133) (x := 0) B dX4_walkOn_133 (by decide) ?_
          refine r_goto (pc := 134) B 142 dX4_walkOn_134 (by decide) ?_
          refine r_istore_7 (pc := 142) B dX4_walkOn_142 (by decide) rfl ?_
          refine r_aload_n (pc := 144) B dX4_walkOn_144 rfl ?_
          refine r_gsN (pc := 145) B (by decide +kernel) dX4_walkOn_145 ?_
          refine r_bipush (pc := 148) (x := 7) B dX4_walkOn_148 (by decide) ?_
          refine r_tg (pc := 150) (v := 99999) B 7 (ix_of 7 rfl) rfl dX4_walkOn_150 ?_
          refine r_aload_n (pc := 151) B dX4_walkOn_151 rfl ?_
          refine r_geti (pc := 152) B FX4_33 (shU hU) rfl dX4_walkOn_152 ?_
          rw [e7]
          refine r_aload_n (pc := 155) B dX4_walkOn_155 rfl ?_
          refine r_geti (pc := 156) B FX4_42 (shS hS) rfl dX4_walkOn_156 ?_
          rw [eS]
          refine r_iadd (pc := 159) B dX4_walkOn_159 ?_
          refine r_iload (pc := 160) B dX4_walkOn_160 rfl ?_
          refine r_isub (pc := 162) B dX4_walkOn_162 ?_
          refine r_mn (pc := 163) B q318 ⟨q319, q11, q320⟩ (by decide) (Nat.le_of_ble_eq_true rfl) dX4_walkOn_163 ?_
          refine r_puti (pc := 166) B PX4_33 (shU hU) rfl dX4_walkOn_166 ?_
          refine r_aload_n (pc := 169) B dX4_walkOn_169 rfl ?_
          refine r_geti (pc := 170) B FX4_27 (shU hU) rfl dX4_walkOn_170 ?_
          try rw [st2_fd _ _ _ _ (show (5 : Nat) ≠ 7 by decide)]
          rw [e5]
          refine r_if_ne (pc := 173) B 198 dX4_walkOn_173 (by decide) (fun h173 => ?_) (fun h173 => ?_)
          · skip
            refine r_iload (pc := 198) B dX4_walkOn_198 rfl ?_
            exact r_zret (pc := 200) B R (by first | decide | exact bI_01 _) dX4_walkOn_200 ⟨by rw [← hA, ← hz], by clear B R X e0 e1 e2 e5 e7 eS eR; rw [hρ]; funext a b; simp only [wrU, goU, otG, goG, ← hA, ← hz, trF, st2]; clear hA hz hρ; grind (splits := 30)⟩
          · skip
            refine r_aload_n (pc := 176) B dX4_walkOn_176 rfl ?_
            refine r_bipush (pc := 177) (x := 16) B dX4_walkOn_177 (by decide) ?_
            refine r_aload_n (pc := 179) B dX4_walkOn_179 rfl ?_
            refine r_geti (pc := 180) B FX4_15 (shU hU) rfl dX4_walkOn_180 ?_
            try rw [st2_fd _ _ _ _ (show (1 : Nat) ≠ 7 by decide)]
            rw [e1, ← ha]
            refine r_aload_n (pc := 183) B dX4_walkOn_183 rfl ?_
            refine r_aload_n (pc := 184) B dX4_walkOn_184 rfl ?_
            refine r_geti (pc := 185) B FX4_50 (shS hS) rfl dX4_walkOn_185 ?_
            try rw [st2_cl _ _ _ _ n0]
            rw [eS]
            refine r_cVi1 (pc := 188) B KX4_91 (c_pace l G _ hU _) (shU hU) rfl (by decide) (Nat.le_of_ble_eq_true rfl) dX4_walkOn_188 ?_
            try rw [st2_fd _ _ _ _ (show (0 : Nat) ≠ 7 by decide)]
            rw [e0]
            refine r_iadd (pc := 191) B dX4_walkOn_191 ?_
            refine r_mn (pc := 192) B q318 ⟨q319, q11, q320⟩ (by decide) (Nat.le_of_ble_eq_true rfl) dX4_walkOn_192 ?_
            refine r_puti (pc := 195) B PX4_15 (shU hU) rfl dX4_walkOn_195 ?_
            refine r_iload (pc := 198) B dX4_walkOn_198 rfl ?_
            exact r_zret (pc := 200) B R (by first | decide | exact bI_01 _) dX4_walkOn_200 ⟨by rw [← hA, ← hz], by clear B R X e0 e1 e2 e5 e7 eS eR; rw [hρ]; funext a b; simp only [wrU, goU, otG, goG, ← hA, ← hz, trF, st2]; clear hA hz hρ; grind (splits := 30)⟩
  · skip
    exact absurd (by rw [ha]; exact nI_stepP hj) (bI_0.mp h7)

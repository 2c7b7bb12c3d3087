/-! tokens: place, end, sort, value -/
abbrev TS : Type := Nat × Nat × Int32 × Nat
def tkO (c : Int32) : Int32 := if c < 0 then 0 else if ¬ c < 97 ∧ ¬ 122 < c then 1 else if ¬ c < 48 ∧ ¬ 57 < c then 2 else if c = 59 then 3 else 4
def bA (by1 : Nat → Int32) (L p : Nat) : Int32 := if p < L then by1 p else -1
def skN (by1 : Nat → Int32) : Nat → Nat → Nat
  | 0, p => p
  | n + 1, p => if by1 p = 32 then skN by1 n (p + 1) else p
def vS (v : Nat) (c : Int32) : Nat := if 999 < v then v else 10 * v + (c.toNatClampNeg - 48)
def scN (by1 : Nat → Int32) (k : Int32) : Nat → Nat → Nat → Nat × Nat
  | 0, q, v => (q, v)
  | n + 1, q, v => if tkO (by1 q) = k then scN by1 k n (q + 1) (if k = 2 then vS v (by1 q) else v) else (q, v)
def sk (by1 : Nat → Int32) (L b : Nat) : Nat := skN by1 (L - b) b
def fuelT (L : Nat) (k : Int32) (p : Nat) : Nat := if k = 1 ∨ k = 2 then L - p else (if p + 1 ≤ L then 1 else 0)
def tkF (by1 : Nat → Int32) (L b : Nat) : TS := (sk by1 L b, (scN by1 (tkO (bA by1 L (sk by1 L b))) (fuelT L (tkO (bA by1 L (sk by1 L b))) (sk by1 L b)) (sk by1 L b) 0).1, tkO (bA by1 L (sk by1 L b)), (scN by1 (tkO (bA by1 L (sk by1 L b))) (fuelT L (tkO (bA by1 L (sk by1 L b))) (sk by1 L b)) (sk by1 L b) 0).2)
theorem skN_le (by1 : Nat → Int32) : ∀ n p, p ≤ skN by1 n p ∧ skN by1 n p ≤ p + n
  | 0, p => ⟨Nat.le_refl _, Nat.le_refl _⟩
  | n + 1, p => by
    rw [skN]
    split
    · have := skN_le by1 n (p + 1); omega
    · omega
theorem scN_le (by1 : Nat → Int32) (k : Int32) : ∀ n q v, q ≤ (scN by1 k n q v).1 ∧ (scN by1 k n q v).1 ≤ q + n
  | 0, q, v => ⟨Nat.le_refl _, Nat.le_refl _⟩
  | n + 1, q, v => by
    rw [scN]
    split
    · have := scN_le by1 k n (q + 1) (if k = 2 then vS v (by1 q) else v); omega
    · exact ⟨Nat.le_refl _, Nat.le_add_right _ _⟩
theorem fuelT_le {L p : Nat} {k : Int32} (h : p ≤ L) : p + fuelT L k p ≤ L := by
  unfold fuelT
  split
  · omega
  · split <;> omega
theorem tkF_le {by1 : Nat → Int32} {L b : Nat} (h : b ≤ L) : b ≤ (tkF by1 L b).1 ∧ (tkF by1 L b).1 ≤ (tkF by1 L b).2.1 ∧ (tkF by1 L b).2.1 ≤ L := by
  have h1 := skN_le by1 (L - b) b
  have hs : sk by1 L b ≤ L := by unfold sk; omega
  have h2 := scN_le by1 (tkO (bA by1 L (sk by1 L b))) (fuelT L (tkO (bA by1 L (sk by1 L b))) (sk by1 L b)) (sk by1 L b) 0
  have h3 := fuelT_le (k := tkO (bA by1 L (sk by1 L b))) hs
  refine ⟨h1.1, h2.1, ?_⟩
  show (scN by1 _ _ (sk by1 L b) 0).1 ≤ L
  omega
/-- the reader stands at a token -/
def rdS (σ : Sg) (t : TS) : Prop := σ 54 1 = nI t.1 ∧ σ 54 2 = nI t.2.1 ∧ σ 54 3 = t.2.2.1 ∧ σ 54 4 = nI (min 1000 t.2.2.2)
theorem bt_bA {σ : Sg} {L p : Nat} (hL8 : L ≤ 120) (hL : σ 52 1 = nI L) (hp : p ≤ 200) : btF σ (nI p) = bA (σ 53) L p := by
  unfold btF bA
  rw [if_neg (nI_pos (by omega)), hL]
  by_cases q : p < L
  · rw [if_pos q, if_neg (fun z => by have := (nI_leI (by omega) (by omega)).mp z; omega), nI_clamp (by omega)]
  · rw [if_neg q, if_pos ((nI_leI (by omega) (by omega)).mpr (by omega))]
theorem tk2 {c : Int32} (h : tkO c = 2) : ∃ d, 48 ≤ d ∧ d ≤ 57 ∧ c = nI d := by
  unfold tkO at h
  split at h
  · exact absurd h (by decide)
  rename_i h0
  split at h
  · exact absurd h (by decide)
  split at h
  · rename_i h1 h2
    obtain ⟨d, hd, rfl⟩ := nI_of h0
    refine ⟨d, ?_, (nI_leI (b := 57) hd (by omega)).mp (Int32.not_lt.mp h2.2), rfl⟩
    exact (nI_leI (a := 48) (by omega) hd).mp (Int32.not_lt.mp h2.1)
  · split at h <;> exact absurd h (by decide)
theorem num_step {v : Nat} {c : Int32} (h : tkO c = 2) : mn 1000 (10 * nI (min 1000 v) + c - 48) = nI (min 1000 (vS v c)) := by
  obtain ⟨d, h1, h2, rfl⟩ := tk2 h
  have e : 10 * nI (min 1000 v) + nI d - 48 = nI (10 * min 1000 v + (d - 48)) := by
    rw [show (10 : Int32) = nI 10 from rfl, pk_mul, nI_add, show (48 : Int32) = nI 48 from rfl, pk_sub (by omega)]
    congr 1; omega
  rw [e, vS, nI_clamp (by omega)]
  unfold mn
  by_cases q : 10 * min 1000 v + (d - 48) < 1000
  · rw [if_pos (show nI _ < 1000 from (nI_ltI (b := 1000) (by omega) (by omega)).mpr q)]
    congr 1
    split <;> omega
  · rw [if_neg (show ¬ nI _ < 1000 from fun z => q ((nI_ltI (b := 1000) (by omega) (by omega)).mp z))]
    rw [show (1000 : Int32) = nI 1000 from rfl]
    congr 1
    split <;> omega

set_option maxHeartbeats 4000000 in
set_option maxRecDepth 20000 in
theorem c_tokenOf (l : Launch) (G : GG) (T : List Sh) (σ : Sg) (c : Int32) : CtI l G mX0_tokenOf 0 T [.int c] σ (tkO c) σ := by
  refine ct_intro (by decide) (Nat.le_of_ble_eq_true rfl) (fun X B R => ?_)
  show V X G T σ [some (.int c)] [] 0
  refine r_iload_n (pc := 0) B dX0_tokenOf_0 rfl ?_
  refine r_if_ge (pc := 1) B 6 dX0_tokenOf_1 (by decide) (fun h1 => ?_) (fun h1 => ?_)
  · skip
    refine r_iload_n (pc := 6) B dX0_tokenOf_6 rfl ?_
    refine r_bipush (pc := 7) (x := 97) B dX0_tokenOf_7 (by decide) ?_
    refine r_icmp_lt (pc := 9) B 20 dX0_tokenOf_9 (by decide) (fun h9 => ?_) (fun h9 => ?_)
    · skip
      refine r_iload_n (pc := 20) B dX0_tokenOf_20 rfl ?_
      refine r_bipush (pc := 21) (x := 48) B dX0_tokenOf_21 (by decide) ?_
      refine r_icmp_lt (pc := 23) B 34 dX0_tokenOf_23 (by decide) (fun h23 => ?_) (fun h23 => ?_)
      · skip
        refine r_iload_n (pc := 34) B dX0_tokenOf_34 rfl ?_
        refine r_bipush (pc := 35) (x := 59) B dX0_tokenOf_35 (by decide) ?_
        refine r_icmp_ne (pc := 37) B 44 dX0_tokenOf_37 (by decide) (fun h37 => ?_) (fun h37 => ?_)
        · skip
          refine r_iconst (pc := 44) (x := 4) B dX0_tokenOf_44 (by decide) ?_
          exact r_iret (pc := 45) B R dX0_tokenOf_45 ⟨by clear B R X; grind [tkO], rfl⟩
        · skip
          refine r_iconst (pc := 40) (x := 3) B dX0_tokenOf_40 (by decide) ?_
          refine r_goto (pc := 41) B 45 dX0_tokenOf_41 (by decide) ?_
          exact r_iret (pc := 45) B R dX0_tokenOf_45 ⟨by clear B R X; grind [tkO], rfl⟩
      · skip
        refine r_iload_n (pc := 26) B dX0_tokenOf_26 rfl ?_
        refine r_bipush (pc := 27) (x := 57) B dX0_tokenOf_27 (by decide) ?_
        refine r_icmp_gt (pc := 29) B 34 dX0_tokenOf_29 (by decide) (fun h29 => ?_) (fun h29 => ?_)
        · skip
          refine r_iload_n (pc := 34) B dX0_tokenOf_34 rfl ?_
          refine r_bipush (pc := 35) (x := 59) B dX0_tokenOf_35 (by decide) ?_
          refine r_icmp_ne (pc := 37) B 44 dX0_tokenOf_37 (by decide) (fun h37 => ?_) (fun h37 => ?_)
          · skip
            refine r_iconst (pc := 44) (x := 4) B dX0_tokenOf_44 (by decide) ?_
            exact r_iret (pc := 45) B R dX0_tokenOf_45 ⟨by clear B R X; grind [tkO], rfl⟩
          · skip
            refine r_iconst (pc := 40) (x := 3) B dX0_tokenOf_40 (by decide) ?_
            refine r_goto (pc := 41) B 45 dX0_tokenOf_41 (by decide) ?_
            exact r_iret (pc := 45) B R dX0_tokenOf_45 ⟨by clear B R X; grind [tkO], rfl⟩
        · skip
          refine r_iconst (pc := 32) (x := 2) B dX0_tokenOf_32 (by decide) ?_
          exact r_iret (pc := 33) B R dX0_tokenOf_33 ⟨by clear B R X; grind [tkO], rfl⟩
    · skip
      refine r_iload_n (pc := 12) B dX0_tokenOf_12 rfl ?_
      refine r_bipush (pc := 13) (x := 122) B dX0_tokenOf_13 (by decide) ?_
      refine r_icmp_gt (pc := 15) B 20 dX0_tokenOf_15 (by decide) (fun h15 => ?_) (fun h15 => ?_)
      · skip
        refine r_iload_n (pc := 20) B dX0_tokenOf_20 rfl ?_
        refine r_bipush (pc := 21) (x := 48) B dX0_tokenOf_21 (by decide) ?_
        refine r_icmp_lt (pc := 23) B 34 dX0_tokenOf_23 (by decide) (fun h23 => ?_) (fun h23 => ?_)
        · skip
          refine r_iload_n (pc := 34) B dX0_tokenOf_34 rfl ?_
          refine r_bipush (pc := 35) (x := 59) B dX0_tokenOf_35 (by decide) ?_
          refine r_icmp_ne (pc := 37) B 44 dX0_tokenOf_37 (by decide) (fun h37 => ?_) (fun h37 => ?_)
          · skip
            refine r_iconst (pc := 44) (x := 4) B dX0_tokenOf_44 (by decide) ?_
            exact r_iret (pc := 45) B R dX0_tokenOf_45 ⟨by clear B R X; grind [tkO], rfl⟩
          · skip
            refine r_iconst (pc := 40) (x := 3) B dX0_tokenOf_40 (by decide) ?_
            refine r_goto (pc := 41) B 45 dX0_tokenOf_41 (by decide) ?_
            exact r_iret (pc := 45) B R dX0_tokenOf_45 ⟨by clear B R X; grind [tkO], rfl⟩
        · skip
          refine r_iload_n (pc := 26) B dX0_tokenOf_26 rfl ?_
          refine r_bipush (pc := 27) (x := 57) B dX0_tokenOf_27 (by decide) ?_
          refine r_icmp_gt (pc := 29) B 34 dX0_tokenOf_29 (by decide) (fun h29 => ?_) (fun h29 => ?_)
          · skip
            refine r_iload_n (pc := 34) B dX0_tokenOf_34 rfl ?_
            refine r_bipush (pc := 35) (x := 59) B dX0_tokenOf_35 (by decide) ?_
            refine r_icmp_ne (pc := 37) B 44 dX0_tokenOf_37 (by decide) (fun h37 => ?_) (fun h37 => ?_)
            · skip
              refine r_iconst (pc := 44) (x := 4) B dX0_tokenOf_44 (by decide) ?_
              exact r_iret (pc := 45) B R dX0_tokenOf_45 ⟨by clear B R X; grind [tkO], rfl⟩
            · skip
              refine r_iconst (pc := 40) (x := 3) B dX0_tokenOf_40 (by decide) ?_
              refine r_goto (pc := 41) B 45 dX0_tokenOf_41 (by decide) ?_
              exact r_iret (pc := 45) B R dX0_tokenOf_45 ⟨by clear B R X; grind [tkO], rfl⟩
          · skip
            refine r_iconst (pc := 32) (x := 2) B dX0_tokenOf_32 (by decide) ?_
            exact r_iret (pc := 33) B R dX0_tokenOf_33 ⟨by clear B R X; grind [tkO], rfl⟩
      · skip
        refine r_iconst (pc := 18) (x := 1) B dX0_tokenOf_18 (by decide) ?_
        exact r_iret (pc := 19) B R dX0_tokenOf_19 ⟨by clear B R X; grind [tkO], rfl⟩
  · skip
    refine r_iconst (pc := 4) (x := 0) B dX0_tokenOf_4 (by decide) ?_
    exact r_iret (pc := 5) B R dX0_tokenOf_5 ⟨by clear B R X; grind [tkO], rfl⟩
/-- the reader's own cell alone changes -/
def rdO (σ τ : Sg) : Prop := ∀ k, k ≠ 54 → τ k = σ k
theorem rdO.rf (σ : Sg) : rdO σ σ := fun _ _ => rfl
theorem rdO.tr {σ τ ρ : Sg} (h1 : rdO σ τ) (h2 : rdO τ ρ) : rdO σ ρ := fun k hk => (h2 k hk).trans (h1 k hk)
theorem st2_rdO {σ ρ : Sg} {i : Nat} {v : Int32} (h : rdO σ ρ) : rdO σ (st2 ρ 54 i v) := fun k hk => by rw [st2_cl _ _ _ _ hk]; exact h k hk

theorem mn_end {L p : Nat} {k : Int32} (hpL : p ≤ L) (hL8 : L ≤ 120) (hf : fuelT L k p = if p + 1 ≤ L then 1 else 0) : mn (nI L) (nI (p + 1)) = nI (p + fuelT L k p) := by
  rw [hf]
  unfold mn
  by_cases q : p + 1 < L
  · rw [if_pos ((nI_ltI (by omega) (by omega)).mpr q), if_pos (by omega)]
  · rw [if_neg (fun z => q ((nI_ltI (by omega) (by omega)).mp z))]
    congr 1
    split <;> omega
set_option maxHeartbeats 4000000 in
set_option maxRecDepth 20000 in
theorem c_readToken (l : Launch) (G : GG) (σ : Sg) {L b : Nat} (hL8 : L ≤ 120) (hL : σ 52 1 = nI L) (hbL : b ≤ L) (hb : σ 54 2 = nI b) : CpV l G mX0_readToken 1 shT [.ref (ad G 54)] σ (fun τ => rdS τ (tkF (σ 53) L b) ∧ rdO σ τ) := by
  refine ct_intro (by decide) (Nat.le_of_ble_eq_true rfl) (fun X B R => ?_)
  show V X G shT σ [some (.ref (ad G 54)), none, none] [] 0
  refine r_aload_n (pc := 0) B dX0_readToken_0 rfl ?_
  refine r_aload_n (pc := 1) B dX0_readToken_1 rfl ?_
  refine r_geti (pc := 2) B FX0_15 rfl rfl dX0_readToken_2 ?_
  refine r_puti (pc := 5) B PX0_9 rfl rfl dX0_readToken_5 ?_
  rw [hb]
  have hsc : ∀ (n q v : Nat) (e p : Nat) (k : Int32) (z : Option Value) (ρ : Sg), q + n = e → e ≤ L → rdO σ ρ → ρ 54 1 = nI p → ρ 54 2 = nI q → ρ 54 3 = k → ρ 54 4 = nI (min 1000 v) → tkF (σ 53) L b = (p, (scN (σ 53) k n q v).1, k, (scN (σ 53) k n q v).2) → V X G shT ρ [some (.ref (ad G 54)), z, some (.int (nI e))] [] 135 := by
    intro n
    induction n with
    | zero =>
      intro q v e p k z ρ hq he hw h1 h2 h3 h4 ht
      have eq : q = e := by omega
      subst eq
      refine r_aload_n (pc := 135) B dX0_readToken_135 rfl ?_
      refine r_geti (pc := 136) B FX0_15 rfl rfl dX0_readToken_136 ?_
      rw [h2]
      refine r_iload_n (pc := 139) B dX0_readToken_139 rfl ?_
      refine r_icmp_ge (pc := 140) B 217 dX0_readToken_140 (by decide) (fun h140 => ?_) (fun h140 => ?_)
      · skip
        exact r_vret (pc := 217) B R dX0_readToken_217 ⟨rfl, by rw [ht]; exact ⟨h1, h2, h3, h4⟩, hw⟩
      · skip
        exact absurd ((nI_leI (by omega) (by omega)).mpr (Nat.le_refl q)) h140
    | succ n ih =>
      intro q v e p k z ρ hq he hw h1 h2 h3 h4 ht
      have hl2 : ρ 52 1 = nI L := by rw [hw 52 (by decide)]; exact hL
      have e53 : ρ 53 = σ 53 := hw 53 (by decide)
      refine r_aload_n (pc := 135) B dX0_readToken_135 rfl ?_
      refine r_geti (pc := 136) B FX0_15 rfl rfl dX0_readToken_136 ?_
      rw [h2]
      refine r_iload_n (pc := 139) B dX0_readToken_139 rfl ?_
      refine r_icmp_ge (pc := 140) B 217 dX0_readToken_140 (by decide) (fun h140 => ?_) (fun h140 => ?_)
      · skip
        exact absurd (nI_ge_of (n := e) (i := q) (by omega) (by omega) h140) (by omega)
      · skip
        refine r_aload_n (pc := 143) B dX0_readToken_143 rfl ?_
        refine r_getr (pc := 144) B FX0_24 rfl rfl dX0_readToken_144 ?_
        refine r_aload_n (pc := 147) B dX0_readToken_147 rfl ?_
        refine r_geti (pc := 148) B FX0_15 rfl rfl dX0_readToken_148 ?_
        rw [h2]
        refine r_cVi1 (pc := 151) B KX0_140 (c_byteAt l G _ _ hL8 hl2) rfl rfl (by decide) (Nat.le_of_ble_eq_true rfl) dX0_readToken_151 ?_
        rw [bt_bA hL8 hl2 (by omega), e53, bA, if_pos (by omega)]
        refine r_cSi1 (pc := 154) B KX0_147 (c_tokenOf l G _ _ _) (by decide) (Nat.le_of_ble_eq_true rfl) dX0_readToken_154 ?_
        refine r_aload_n (pc := 157) B dX0_readToken_157 rfl ?_
        refine r_geti (pc := 158) B FX0_18 rfl rfl dX0_readToken_158 ?_
        rw [h3]
        refine r_icmp_ne (pc := 161) B 217 dX0_readToken_161 (by decide) (fun h161 => ?_) (fun h161 => ?_)
        · skip
          have hsc1 : scN (σ 53) k (n + 1) q v = (q, v) := by rw [scN, if_neg h161]
          exact r_vret (pc := 217) B R dX0_readToken_217 ⟨rfl, by rw [ht, hsc1]; exact ⟨h1, h2, h3, h4⟩, hw⟩
        · skip
          have hsc1 : scN (σ 53) k (n + 1) q v = scN (σ 53) k n (q + 1) (if k = 2 then vS v (σ 53 q) else v) := by rw [scN, if_pos (by first | exact h161 | exact Classical.not_not.mp h161)]
          refine r_aload_n (pc := 164) B dX0_readToken_164 rfl ?_
          refine r_geti (pc := 165) B FX0_18 rfl rfl dX0_readToken_165 ?_
          rw [h3]
          refine r_iconst (pc := 168) (x := 2) B dX0_readToken_168 (by decide) ?_
          refine r_icmp_ne (pc := 169) B 204 dX0_readToken_169 (by decide) (fun h169 => ?_) (fun h169 => ?_)
          · skip
            rw [hsc1] at ht
            refine r_aload_n (pc := 204) B dX0_readToken_204 rfl ?_
            refine r_dup (pc := 205) B rfl dX0_readToken_205 ?_
            refine r_geti (pc := 206) B FX0_15 rfl rfl dX0_readToken_206 ?_
            try rw [st2_fd _ _ _ _ (show (2 : Nat) ≠ 4 by decide)]
            rw [h2]
            refine r_iconst (pc := 209) (x := 1) B dX0_readToken_209 (by decide) ?_
            refine r_iadd (pc := 210) B dX0_readToken_210 ?_
            rw [nI_1]
            refine r_puti (pc := 211) B PX0_15 rfl rfl dX0_readToken_211 ?_
            refine r_goto (pc := 214) B 135 dX0_readToken_214 (by decide) ?_
            first | (rw [if_neg h169] at ht; exact ih (q + 1) v e p k z _ (by omega) he (st2_rdO hw) ((st2_fd _ _ _ _ (by decide)).trans h1) (st2_at _ _ _ _) ((st2_fd _ _ _ _ (by decide)).trans h3) ((st2_fd _ _ _ _ (by decide)).trans h4) ht) | (rw [if_pos h169] at ht; exact ih (q + 1) (vS v (σ 53 q)) e p k z _ (by omega) he (st2_rdO (st2_rdO hw)) ((st2_fd _ _ _ _ (by decide)).trans ((st2_fd _ _ _ _ (by decide)).trans h1)) (st2_at _ _ _ _) ((st2_fd _ _ _ _ (by decide)).trans ((st2_fd _ _ _ _ (by decide)).trans h3)) ((st2_fd _ _ _ _ (by decide)).trans (st2_at _ _ _ _)) ht)
          · skip
            refine r_aload_n (pc := 172) B dX0_readToken_172 rfl ?_
            refine r_sipush (pc := 173) (x := 1000) B dX0_readToken_173 (by decide) ?_
            refine r_bipush (pc := 176) (x := 10) B dX0_readToken_176 (by decide) ?_
            refine r_aload_n (pc := 178) B dX0_readToken_178 rfl ?_
            refine r_geti (pc := 179) B FX0_21 rfl rfl dX0_readToken_179 ?_
            rw [h4]
            refine r_imul (pc := 182) B dX0_readToken_182 ?_
            refine r_aload_n (pc := 183) B dX0_readToken_183 rfl ?_
            refine r_getr (pc := 184) B FX0_24 rfl rfl dX0_readToken_184 ?_
            refine r_aload_n (pc := 187) B dX0_readToken_187 rfl ?_
            refine r_geti (pc := 188) B FX0_15 rfl rfl dX0_readToken_188 ?_
            rw [h2]
            refine r_cVi1 (pc := 191) B KX0_140 (c_byteAt l G _ _ hL8 hl2) rfl rfl (by decide) (Nat.le_of_ble_eq_true rfl) dX0_readToken_191 ?_
            rw [bt_bA hL8 hl2 (by omega), e53, bA, if_pos (by omega)]
            refine r_iadd (pc := 194) B dX0_readToken_194 ?_
            refine r_bipush (pc := 195) (x := 48) B dX0_readToken_195 (by decide) ?_
            refine r_isub (pc := 197) B dX0_readToken_197 ?_
            refine r_mn (pc := 198) B q569 ⟨q319, q11, q320⟩ (by decide) (Nat.le_of_ble_eq_true rfl) dX0_readToken_198 ?_
            rw [num_step (by rw [← h169]; exact h161)]
            refine r_puti (pc := 201) B PX0_21 rfl rfl dX0_readToken_201 ?_
            rw [hsc1] at ht
            refine r_aload_n (pc := 204) B dX0_readToken_204 rfl ?_
            refine r_dup (pc := 205) B rfl dX0_readToken_205 ?_
            refine r_geti (pc := 206) B FX0_15 rfl rfl dX0_readToken_206 ?_
            try rw [st2_fd _ _ _ _ (show (2 : Nat) ≠ 4 by decide)]
            rw [h2]
            refine r_iconst (pc := 209) (x := 1) B dX0_readToken_209 (by decide) ?_
            refine r_iadd (pc := 210) B dX0_readToken_210 ?_
            rw [nI_1]
            refine r_puti (pc := 211) B PX0_15 rfl rfl dX0_readToken_211 ?_
            refine r_goto (pc := 214) B 135 dX0_readToken_214 (by decide) ?_
            first | (rw [if_neg h169] at ht; exact ih (q + 1) v e p k z _ (by omega) he (st2_rdO hw) ((st2_fd _ _ _ _ (by decide)).trans h1) (st2_at _ _ _ _) ((st2_fd _ _ _ _ (by decide)).trans h3) ((st2_fd _ _ _ _ (by decide)).trans h4) ht) | (rw [if_pos h169] at ht; exact ih (q + 1) (vS v (σ 53 q)) e p k z _ (by omega) he (st2_rdO (st2_rdO hw)) ((st2_fd _ _ _ _ (by decide)).trans ((st2_fd _ _ _ _ (by decide)).trans h1)) (st2_at _ _ _ _) ((st2_fd _ _ _ _ (by decide)).trans ((st2_fd _ _ _ _ (by decide)).trans h3)) ((st2_fd _ _ _ _ (by decide)).trans (st2_at _ _ _ _)) ht)
  have hsk : ∀ (n p : Nat) (ρ : Sg), p + n = L → rdO σ ρ → ρ 54 1 = nI p → skN (σ 53) n p = sk (σ 53) L b → V X G shT ρ [some (.ref (ad G 54)), none, none] [] 8 := by
    have hex : ∀ (p : Nat) (ρ : Sg), p ≤ L → rdO σ ρ → ρ 54 1 = nI p → p = sk (σ 53) L b → V X G shT ρ [some (.ref (ad G 54)), none, none] [] 51 := by
      intro p ρ hpL hw h1 hp
      have hl2 : ρ 52 1 = nI L := by rw [hw 52 (by decide)]; exact hL
      have e53 : ρ 53 = σ 53 := hw 53 (by decide)
      refine r_aload_n (pc := 51) B dX0_readToken_51 rfl ?_
      refine r_aload_n (pc := 52) B dX0_readToken_52 rfl ?_
      refine r_getr (pc := 53) B FX0_24 rfl rfl dX0_readToken_53 ?_
      refine r_aload_n (pc := 56) B dX0_readToken_56 rfl ?_
      refine r_geti (pc := 57) B FX0_9 rfl rfl dX0_readToken_57 ?_
      rw [h1]
      refine r_cVi1 (pc := 60) B KX0_140 (c_byteAt l G _ _ hL8 hl2) rfl rfl (by decide) (Nat.le_of_ble_eq_true rfl) dX0_readToken_60 ?_
      rw [bt_bA hL8 hl2 (by omega), e53]
      refine r_cSi1 (pc := 63) B KX0_147 (c_tokenOf l G _ _ _) (by decide) (Nat.le_of_ble_eq_true rfl) dX0_readToken_63 ?_
      obtain ⟨k, hk⟩ : ∃ k, k = tkO (bA (σ 53) L p) := ⟨_, rfl⟩
      rw [← hk]
      have hT : ∀ e v, (scN (σ 53) k (fuelT L k p) p 0) = (e, v) → tkF (σ 53) L b = (p, e, k, v) := by
        intro e v hs
        unfold tkF
        rw [← hp, ← hk, hs]
      refine r_puti (pc := 66) B PX0_18 rfl rfl dX0_readToken_66 ?_
      refine r_aload_n (pc := 69) B dX0_readToken_69 rfl ?_
      refine r_geti (pc := 70) B FX0_18 rfl rfl dX0_readToken_70 ?_
      rw [st2_at]
      refine r_iconst (pc := 73) (x := 1) B dX0_readToken_73 (by decide) ?_
      refine r_icmp_eq (pc := 74) B 85 dX0_readToken_74 (by decide) (fun h74 => ?_) (fun h74 => ?_)
      · skip
        have hf : fuelT L k p = L - p := by unfold fuelT; rw [if_pos (Or.inl h74)]
        refine r_iconst (pc := 85) (x := 1) B dX0_readToken_85 (by decide) ?_
        refine r_goto (pc := 86) B 90 dX0_readToken_86 (by decide) ?_
        refine r_istore_1 (pc := 90) B dX0_readToken_90 (by decide) rfl ?_
        refine r_iload_n (pc := 91) B dX0_readToken_91 rfl ?_
        refine r_if_eq (pc := 92) B 105 dX0_readToken_92 (by decide) (fun h92 => absurd h92 (by decide)) (fun h92 => ?_)
        refine r_aload_n (pc := 95) B dX0_readToken_95 rfl ?_
        refine r_getr (pc := 96) B FX0_24 rfl rfl dX0_readToken_96 ?_
        refine r_geti (pc := 99) B FX0_145 rfl rfl dX0_readToken_99 ?_
        rw [st2_cl _ _ _ _ (by decide), hl2]
        rw [show nI L = nI (p + fuelT L k p) by rw [hf]; congr 1; omega]
        refine r_goto (pc := 102) B 121 dX0_readToken_102 (by decide) ?_
        refine r_istore_2 (pc := 121) B dX0_readToken_121 (by decide) rfl ?_
        refine r_aload_n (pc := 122) B dX0_readToken_122 rfl ?_
        refine r_iconst (pc := 123) (x := 0) B dX0_readToken_123 (by decide) ?_
        refine r_puti (pc := 124) B PX0_21 rfl rfl dX0_readToken_124 ?_
        refine r_aload_n (pc := 127) B dX0_readToken_127 rfl ?_
        refine r_aload_n (pc := 128) B dX0_readToken_128 rfl ?_
        refine r_geti (pc := 129) B FX0_9 rfl rfl dX0_readToken_129 ?_
        rw [st2_fd _ _ _ _ (by decide), st2_fd _ _ _ _ (by decide), h1]
        refine r_puti (pc := 132) B PX0_15 rfl rfl dX0_readToken_132 ?_
        refine hsc (fuelT L k p) p 0 (p + fuelT L k p) p k _ _ rfl (fuelT_le hpL) (st2_rdO (st2_rdO (st2_rdO hw))) ?_ (st2_at _ _ _ _) ?_ ?_ (hT _ _ rfl)
        · rw [st2_fd _ _ _ _ (by decide), st2_fd _ _ _ _ (by decide), st2_fd _ _ _ _ (by decide), h1]
        · rw [st2_fd _ _ _ _ (by decide), st2_fd _ _ _ _ (by decide), st2_at]
        · rw [st2_fd _ _ _ _ (by decide), st2_at]; rfl
      · skip
        refine r_aload_n (pc := 77) B dX0_readToken_77 rfl ?_
        refine r_geti (pc := 78) B FX0_18 rfl rfl dX0_readToken_78 ?_
        rw [st2_at]
        refine r_iconst (pc := 81) (x := 2) B dX0_readToken_81 (by decide) ?_
        refine r_bz_icmp_ne (pc := 82) B dX0_readToken_82 dX0_readToken_85 dX0_readToken_86 dX0_readToken_89 ?_
        refine r_istore_1 (pc := 90) B dX0_readToken_90 (by decide) rfl ?_
        refine r_iload_n (pc := 91) B dX0_readToken_91 rfl ?_
        refine r_if_eq (pc := 92) B 105 dX0_readToken_92 (by decide) (fun h92 => ?_) (fun h92 => ?_)
        · skip
          have hf : fuelT L k p = if p + 1 ≤ L then 1 else 0 := by unfold fuelT; rw [if_neg (fun z => z.elim h74 (bI_0.mp h92))]
          refine r_aload_n (pc := 105) B dX0_readToken_105 rfl ?_
          refine r_getr (pc := 106) B FX0_24 rfl rfl dX0_readToken_106 ?_
          refine r_geti (pc := 109) B FX0_145 rfl rfl dX0_readToken_109 ?_
          rw [st2_cl _ _ _ _ (by decide), hl2]
          refine r_aload_n (pc := 112) B dX0_readToken_112 rfl ?_
          refine r_geti (pc := 113) B FX0_9 rfl rfl dX0_readToken_113 ?_
          rw [st2_fd _ _ _ _ (by decide), h1]
          refine r_iconst (pc := 116) (x := 1) B dX0_readToken_116 (by decide) ?_
          refine r_iadd (pc := 117) B dX0_readToken_117 ?_
          rw [nI_1]
          refine r_mn (pc := 118) B q569 ⟨q319, q11, q320⟩ (by decide) (Nat.le_of_ble_eq_true rfl) dX0_readToken_118 ?_
          rw [mn_end (k := k) hpL hL8 hf]
          refine r_istore_2 (pc := 121) B dX0_readToken_121 (by decide) rfl ?_
          refine r_aload_n (pc := 122) B dX0_readToken_122 rfl ?_
          refine r_iconst (pc := 123) (x := 0) B dX0_readToken_123 (by decide) ?_
          refine r_puti (pc := 124) B PX0_21 rfl rfl dX0_readToken_124 ?_
          refine r_aload_n (pc := 127) B dX0_readToken_127 rfl ?_
          refine r_aload_n (pc := 128) B dX0_readToken_128 rfl ?_
          refine r_geti (pc := 129) B FX0_9 rfl rfl dX0_readToken_129 ?_
          rw [st2_fd _ _ _ _ (by decide), st2_fd _ _ _ _ (by decide), h1]
          refine r_puti (pc := 132) B PX0_15 rfl rfl dX0_readToken_132 ?_
          refine hsc (fuelT L k p) p 0 (p + fuelT L k p) p k _ _ rfl (fuelT_le hpL) (st2_rdO (st2_rdO (st2_rdO hw))) ?_ (st2_at _ _ _ _) ?_ ?_ (hT _ _ rfl)
          · rw [st2_fd _ _ _ _ (by decide), st2_fd _ _ _ _ (by decide), st2_fd _ _ _ _ (by decide), h1]
          · rw [st2_fd _ _ _ _ (by decide), st2_fd _ _ _ _ (by decide), st2_at]
          · rw [st2_fd _ _ _ _ (by decide), st2_at]; rfl
        · skip
          have hf : fuelT L k p = L - p := by unfold fuelT; rw [if_pos (Or.inr (bI_n.mp h92))]
          refine r_aload_n (pc := 95) B dX0_readToken_95 rfl ?_
          refine r_getr (pc := 96) B FX0_24 rfl rfl dX0_readToken_96 ?_
          refine r_geti (pc := 99) B FX0_145 rfl rfl dX0_readToken_99 ?_
          rw [st2_cl _ _ _ _ (by decide), hl2]
          rw [show nI L = nI (p + fuelT L k p) by rw [hf]; congr 1; omega]
          refine r_goto (pc := 102) B 121 dX0_readToken_102 (by decide) ?_
          refine r_istore_2 (pc := 121) B dX0_readToken_121 (by decide) rfl ?_
          refine r_aload_n (pc := 122) B dX0_readToken_122 rfl ?_
          refine r_iconst (pc := 123) (x := 0) B dX0_readToken_123 (by decide) ?_
          refine r_puti (pc := 124) B PX0_21 rfl rfl dX0_readToken_124 ?_
          refine r_aload_n (pc := 127) B dX0_readToken_127 rfl ?_
          refine r_aload_n (pc := 128) B dX0_readToken_128 rfl ?_
          refine r_geti (pc := 129) B FX0_9 rfl rfl dX0_readToken_129 ?_
          rw [st2_fd _ _ _ _ (by decide), st2_fd _ _ _ _ (by decide), h1]
          refine r_puti (pc := 132) B PX0_15 rfl rfl dX0_readToken_132 ?_
          refine hsc (fuelT L k p) p 0 (p + fuelT L k p) p k _ _ rfl (fuelT_le hpL) (st2_rdO (st2_rdO (st2_rdO hw))) ?_ (st2_at _ _ _ _) ?_ ?_ (hT _ _ rfl)
          · rw [st2_fd _ _ _ _ (by decide), st2_fd _ _ _ _ (by decide), st2_fd _ _ _ _ (by decide), h1]
          · rw [st2_fd _ _ _ _ (by decide), st2_fd _ _ _ _ (by decide), st2_at]
          · rw [st2_fd _ _ _ _ (by decide), st2_at]; rfl
    intro n
    induction n with
    | zero =>
      intro p ρ hq hw h1 hp
      have ep : p = L := by omega
      subst ep
      have hl2 : ρ 52 1 = nI p := by rw [hw 52 (by decide)]; exact hL
      refine r_aload_n (pc := 8) B dX0_readToken_8 rfl ?_
      refine r_geti (pc := 9) B FX0_9 rfl rfl dX0_readToken_9 ?_
      rw [h1]
      refine r_aload_n (pc := 12) B dX0_readToken_12 rfl ?_
      refine r_getr (pc := 13) B FX0_24 rfl rfl dX0_readToken_13 ?_
      refine r_geti (pc := 16) B FX0_145 rfl rfl dX0_readToken_16 ?_
      rw [hl2]
      refine r_icmp_ge (pc := 19) B 51 dX0_readToken_19 (by decide) (fun h19 => ?_) (fun h19 => ?_)
      · skip
        exact hex p ρ (by omega) hw h1 hp
      · skip
        exact absurd ((nI_leI (by omega) (by omega)).mpr (Nat.le_refl p)) h19
    | succ n ih =>
      intro p ρ hq hw h1 hp
      have hl2 : ρ 52 1 = nI L := by rw [hw 52 (by decide)]; exact hL
      have e53 : ρ 53 = σ 53 := hw 53 (by decide)
      refine r_aload_n (pc := 8) B dX0_readToken_8 rfl ?_
      refine r_geti (pc := 9) B FX0_9 rfl rfl dX0_readToken_9 ?_
      rw [h1]
      refine r_aload_n (pc := 12) B dX0_readToken_12 rfl ?_
      refine r_getr (pc := 13) B FX0_24 rfl rfl dX0_readToken_13 ?_
      refine r_geti (pc := 16) B FX0_145 rfl rfl dX0_readToken_16 ?_
      rw [hl2]
      refine r_icmp_ge (pc := 19) B 51 dX0_readToken_19 (by decide) (fun h19 => ?_) (fun h19 => ?_)
      · skip
        exact absurd (nI_ge_of (n := L) (i := p) (by omega) (by omega) h19) (by omega)
      · skip
        refine r_aload_n (pc := 22) B dX0_readToken_22 rfl ?_
        refine r_getr (pc := 23) B FX0_24 rfl rfl dX0_readToken_23 ?_
        refine r_aload_n (pc := 26) B dX0_readToken_26 rfl ?_
        refine r_geti (pc := 27) B FX0_9 rfl rfl dX0_readToken_27 ?_
        rw [h1]
        refine r_cVi1 (pc := 30) B KX0_140 (c_byteAt l G _ _ hL8 hl2) rfl rfl (by decide) (Nat.le_of_ble_eq_true rfl) dX0_readToken_30 ?_
        rw [bt_bA hL8 hl2 (by omega), e53, bA, if_pos (by omega)]
        refine r_bipush (pc := 33) (x := 32) B dX0_readToken_33 (by decide) ?_
        refine r_icmp_ne (pc := 35) B 51 dX0_readToken_35 (by decide) (fun h35 => ?_) (fun h35 => ?_)
        · skip
          rw [skN, if_neg h35] at hp
          exact hex p ρ (by omega) hw h1 hp
        · skip
          rw [skN, if_pos h35] at hp
          refine r_aload_n (pc := 38) B dX0_readToken_38 rfl ?_
          refine r_dup (pc := 39) B rfl dX0_readToken_39 ?_
          refine r_geti (pc := 40) B FX0_9 rfl rfl dX0_readToken_40 ?_
          rw [h1]
          refine r_iconst (pc := 43) (x := 1) B dX0_readToken_43 (by decide) ?_
          refine r_iadd (pc := 44) B dX0_readToken_44 ?_
          rw [nI_1]
          refine r_puti (pc := 45) B PX0_9 rfl rfl dX0_readToken_45 ?_
          refine r_goto (pc := 48) B 8 dX0_readToken_48 (by decide) ?_
          exact ih (p + 1) _ (by omega) (st2_rdO hw) (st2_at _ _ _ _) hp
  exact hsk (L - b) b _ (by omega) (st2_rdO (rdO.rf σ)) (st2_at _ _ _ _) rfl

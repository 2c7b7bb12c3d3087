/-! tokens of the reference -/
def dl (k : Int32) : Nat := if k ≤ 2 then 0 else 1
theorem dl_e (q : Nat) (k : Int32) : nI q + bI (¬ k ≤ 2) = nI (q + dl k) := by
  unfold dl bI
  by_cases h : k ≤ 2
  · rw [if_neg (fun z => z h), if_pos h, Nat.add_zero]; simp
  · rw [if_pos h, if_neg h, nI_1]
/-- beside the token's own fields all is as it was -/
def nt (σ τ : Sg) : Prop := (∀ k, k ≠ 65 → τ k = σ k) ∧ ∀ i, (i < 16 ∨ i = 20) → τ 65 i = σ 65 i
theorem nt.rf (σ : Sg) : nt σ σ := ⟨fun _ _ => rfl, fun _ _ => rfl⟩
theorem nt.st {σ τ : Sg} (h : nt σ τ) {i : Nat} (hi : 16 ≤ i) (h2 : i < 20) (v : Int32) : nt σ (st2 τ 65 i v) := by
  refine ⟨fun k hk => ?_, fun j hj => ?_⟩
  · rw [st2_cl _ _ _ _ hk]; exact h.1 k hk
  · simp only [st2, if_pos]; rw [if_neg (by omega)]; exact h.2 j hj
theorem st_at (σ : Sg) (i : Nat) (v : Int32) : st2 σ 65 i v 65 i = v := by simp [st2]
theorem st_ne {σ : Sg} {i j : Nat} {v : Int32} (h : j ≠ i) : st2 σ 65 i v 65 j = σ 65 j := by simp [st2, h]
theorem lt_tk {c : Int32} : (¬ c < 97 ∧ ¬ 122 < c) ↔ tkO c = 1 := by unfold tkO; grind
theorem dg_tk {c : Int32} : (¬ c < 48 ∧ ¬ 57 < c) ↔ tkO c = 2 := by unfold tkO; grind
theorem tk_m1 : tkO (-1) = 0 := by decide
theorem ten_v : ∀ v, v < 1000 → (10 : Int32) * nI v = nI (10 * v) := by decide +kernel
theorem tk_oth {by1 : Nat → Int32} {L S : Nat} (hS : S ≤ L) (hby : ∀ p, p < L → ¬ by1 p < 0) (h1 : ¬ tkO (bA by1 L S) = 1) (h2 : ¬ tkO (bA by1 L S) = 2) : (S + dl (tkO (bA by1 L S)), 0) = scN by1 (tkO (bA by1 L S)) (fuelT L (tkO (bA by1 L S)) S) S 0 := by
  unfold fuelT
  rw [if_neg (fun q => q.elim h1 h2)]
  by_cases h : S < L
  · have hn : ¬ by1 S < 0 := hby S h
    rw [if_pos (by omega), show bA by1 L S = by1 S by unfold bA; rw [if_pos h]] at *
    have hd : dl (tkO (by1 S)) = 1 := by
      unfold dl
      rw [if_neg]
      intro q
      unfold tkO at h1 h2 q
      grind
    rw [scN, if_pos rfl, if_neg h2, scN, hd]
  · rw [if_neg (by omega), show bA by1 L S = -1 by unfold bA; rw [if_neg h], tk_m1, scN]
    rfl
theorem tk_rg (c : Int32) : tkO c = 0 ∨ tkO c = 1 ∨ tkO c = 2 ∨ tkO c = 3 ∨ tkO c = 4 := by unfold tkO; grind

set_option maxHeartbeats 4000000 in
set_option maxRecDepth 20000 in
theorem e_isLetter (l : Launch) (G : GG) (T : List Sh) (σ : Sg) (c : Int32) : CtI l G mX8_isLetter 0 T [.int c] σ (bI (tkO c = 1)) σ := by
  rw [← bI_cg (lt_tk (c := c))]
  refine ct_intro (by decide) (Nat.le_of_ble_eq_true rfl) (fun X B R => ?_)
  show V X G T σ [some (.int c)] [] 0
  refine r_iload_n (pc := 0) B dX8_isLetter_0 rfl ?_
  refine r_bipush (pc := 1) (x := 97) B dX8_isLetter_1 (by decide) ?_
  refine r_icmp_lt (pc := 3) B 16 dX8_isLetter_3 (by decide) (fun h3 => ?_) (fun h3 => ?_)
  · skip
    refine r_iconst (pc := 16) (x := 0) B dX8_isLetter_16 (by decide) ?_
    exact r_zret (pc := 17) B R (by first | decide | exact bI_01 _) dX8_isLetter_17 ⟨by clear B R X; grind [bI], rfl⟩
  · skip
    refine r_iload_n (pc := 6) B dX8_isLetter_6 rfl ?_
    refine r_bipush (pc := 7) (x := 122) B dX8_isLetter_7 (by decide) ?_
    refine r_bz_icmp_gt (pc := 9) B dX8_isLetter_9 dX8_isLetter_12 dX8_isLetter_13 dX8_isLetter_16 ?_
    exact r_zret (pc := 17) B R (by first | decide | exact bI_01 _) dX8_isLetter_17 ⟨by clear B R X; grind [bI], rfl⟩
set_option maxHeartbeats 4000000 in
set_option maxRecDepth 20000 in
theorem e_isDigit (l : Launch) (G : GG) (T : List Sh) (σ : Sg) (c : Int32) : CtI l G mX8_isDigit 0 T [.int c] σ (bI (tkO c = 2)) σ := by
  rw [← bI_cg (dg_tk (c := c))]
  refine ct_intro (by decide) (Nat.le_of_ble_eq_true rfl) (fun X B R => ?_)
  show V X G T σ [some (.int c)] [] 0
  refine r_iload_n (pc := 0) B dX8_isDigit_0 rfl ?_
  refine r_bipush (pc := 1) (x := 48) B dX8_isDigit_1 (by decide) ?_
  refine r_icmp_lt (pc := 3) B 16 dX8_isDigit_3 (by decide) (fun h3 => ?_) (fun h3 => ?_)
  · skip
    refine r_iconst (pc := 16) (x := 0) B dX8_isDigit_16 (by decide) ?_
    exact r_zret (pc := 17) B R (by first | decide | exact bI_01 _) dX8_isDigit_17 ⟨by clear B R X; grind [bI], rfl⟩
  · skip
    refine r_iload_n (pc := 6) B dX8_isDigit_6 rfl ?_
    refine r_bipush (pc := 7) (x := 57) B dX8_isDigit_7 (by decide) ?_
    refine r_bz_icmp_gt (pc := 9) B dX8_isDigit_9 dX8_isDigit_12 dX8_isDigit_13 dX8_isDigit_16 ?_
    exact r_zret (pc := 17) B R (by first | decide | exact bI_01 _) dX8_isDigit_17 ⟨by clear B R X; grind [bI], rfl⟩
set_option maxHeartbeats 4000000 in
set_option maxRecDepth 20000 in
theorem e_byteAt (l : Launch) (G : GG) (σ : Sg) {L p : Nat} {x : Int32} (hL8 : L ≤ 120) (hL : σ 65 7 = nI L) (hx : x = nI p) (hp : p ≤ 200) : CtI l G mX8_byteAt 0 shT [.ref (ad G 65), .int x] σ (bA (σ 71) L p) σ := by
  subst hx
  refine ct_intro (by decide) (Nat.le_of_ble_eq_true rfl) (fun X B R => ?_)
  show V X G shT σ [some (.ref (ad G 65)), some (.int (nI p))] [] 0
  refine r_iload_n (pc := 0) B dX8_byteAt_0 rfl ?_
  refine r_aload_n (pc := 1) B dX8_byteAt_1 rfl ?_
  refine r_geti (pc := 2) B FX8_209 rfl rfl dX8_byteAt_2 ?_
  rw [hL]
  refine r_icmp_ge (pc := 5) B 17 dX8_byteAt_5 (by decide) (fun h5 => ?_) (fun h5 => ?_)
  · skip
    have hpL : ¬ p < L := fun z => by have := (nI_leI (a := L) (b := p) (by omega) (by omega)).mp h5; omega
    refine r_iconst (pc := 17) (x := (-1)) B dX8_byteAt_17 (by decide) ?_
    exact r_iret (pc := 18) B R dX8_byteAt_18 ⟨by unfold bA; first | rw [if_pos hpL] | rw [if_neg hpL], rfl⟩
  · skip
    have hpL : p < L := nI_lt_of (by omega) (by omega) h5
    refine r_aload_n (pc := 8) B dX8_byteAt_8 rfl ?_
    refine r_getr (pc := 9) B FX8_25 rfl rfl dX8_byteAt_9 ?_
    refine r_iload_n (pc := 12) B dX8_byteAt_12 rfl ?_
    refine r_iald (pc := 13) B rfl (ix_nI (by omega) (by decide)) dX8_byteAt_13 ?_
    refine r_goto (pc := 14) B 18 dX8_byteAt_14 (by decide) ?_
    exact r_iret (pc := 18) B R dX8_byteAt_18 ⟨by unfold bA; first | rw [if_pos hpL] | rw [if_neg hpL], rfl⟩
set_option maxHeartbeats 4000000 in
set_option maxRecDepth 20000 in
theorem e_nextToken (l : Launch) (G : GG) (σ : Sg) {L b : Nat} (hL8 : L ≤ 120) (hL : σ 65 7 = nI L) (hbL : b ≤ L) (hb : σ 65 18 = nI b) (hby : ∀ p, p < L → ¬ σ 71 p < 0) : CpV l G mX8_nextToken 1 shT [.ref (ad G 65)] σ (fun τ => nt σ τ ∧ τ 65 16 = (tkF (σ 71) L b).2.2.1 ∧ τ 65 17 = nI (tkF (σ 71) L b).1 ∧ τ 65 18 = nI (tkF (σ 71) L b).2.1 ∧ τ 65 19 = nI (tkF (σ 71) L b).2.2.2) := by
  have hS := skN_le (σ 71) (L - b) b
  have hSL : (sk (σ 71) L b) ≤ L := by unfold sk; omega
  have oth : ¬ (tkO (bA (σ 71) L (sk (σ 71) L b))) = 1 → ¬ (tkO (bA (σ 71) L (sk (σ 71) L b))) = 2 → ((sk (σ 71) L b) + dl (tkO (bA (σ 71) L (sk (σ 71) L b))), 0) = (scN (σ 71) (tkO (bA (σ 71) L (sk (σ 71) L b))) (fuelT L (tkO (bA (σ 71) L (sk (σ 71) L b))) (sk (σ 71) L b)) (sk (σ 71) L b) 0) := tk_oth hSL hby
  refine ct_intro (by decide) (Nat.le_of_ble_eq_true rfl) (fun X B R => ?_)
  show V X G shT σ [some (.ref (ad G 65)), none] [] 0
  have hJ211 : ∀ (q v : Nat) (ρ : Sg) (tl : Option Value), nt σ ρ → q ≤ L → ρ 65 16 = (tkO (bA (σ 71) L (sk (σ 71) L b))) → ρ 65 17 = nI (sk (σ 71) L b) → ρ 65 18 = nI q → ρ 65 19 = nI v → (q + dl (tkO (bA (σ 71) L (sk (σ 71) L b))), v) = (scN (σ 71) (tkO (bA (σ 71) L (sk (σ 71) L b))) (fuelT L (tkO (bA (σ 71) L (sk (σ 71) L b))) (sk (σ 71) L b)) (sk (σ 71) L b) 0) → V X G shT ρ [some (.ref (ad G 65)), tl] [] 211 := by
    intro q v ρ tl hnt hqL h16 h17 h18 h19 he
    refine r_aload_n (pc := 211) B dX8_nextToken_211 rfl ?_
    refine r_dup (pc := 212) B rfl dX8_nextToken_212 ?_
    refine r_geti (pc := 213) B FX8_212 rfl rfl dX8_nextToken_213 ?_
    rw [h18]
    refine r_aload_n (pc := 216) B dX8_nextToken_216 rfl ?_
    refine r_geti (pc := 217) B FX8_227 rfl rfl dX8_nextToken_217 ?_
    rw [h16]
    refine r_iconst (pc := 220) (x := 2) B dX8_nextToken_220 (by decide) ?_
    refine r_bz_icmp_le (pc := 221) B dX8_nextToken_221 dX8_nextToken_224 dX8_nextToken_225 dX8_nextToken_228 ?_
    refine r_iadd (pc := 229) B dX8_nextToken_229 ?_
    rw [dl_e]
    refine r_puti (pc := 230) B PX8_212 rfl rfl dX8_nextToken_230 ?_
    exact r_vret (pc := 233) B R dX8_nextToken_233 ⟨rfl, hnt.st (by omega) (by omega) _, by rw [st_ne (by decide)]; exact h16, by rw [st_ne (by decide)]; exact h17, by rw [st_at]; exact congrArg nI (congrArg Prod.fst he), by rw [st_ne (by decide), h19]; exact congrArg nI (congrArg Prod.snd he)⟩
  have hL136 : ∀ (n q v : Nat) (ρ : Sg) (tl : Option Value), q + n = L → v < 100000 → nt σ ρ → ρ 65 16 = (tkO (bA (σ 71) L (sk (σ 71) L b))) → ρ 65 17 = nI (sk (σ 71) L b) → ρ 65 18 = nI q → ρ 65 19 = nI v → ((tkO (bA (σ 71) L (sk (σ 71) L b))) = 2 → scN (σ 71) 2 n q v = (scN (σ 71) (tkO (bA (σ 71) L (sk (σ 71) L b))) (fuelT L (tkO (bA (σ 71) L (sk (σ 71) L b))) (sk (σ 71) L b)) (sk (σ 71) L b) 0)) → (¬ (tkO (bA (σ 71) L (sk (σ 71) L b))) = 2 → (q + dl (tkO (bA (σ 71) L (sk (σ 71) L b))), v) = (scN (σ 71) (tkO (bA (σ 71) L (sk (σ 71) L b))) (fuelT L (tkO (bA (σ 71) L (sk (σ 71) L b))) (sk (σ 71) L b)) (sk (σ 71) L b) 0)) → V X G shT ρ [some (.ref (ad G 65)), tl] [] 136 := by
    intro n
    induction n with
    | zero =>
      intro q v ρ tl hq hv hnt h16 h17 h18 h19 e1 e2
      refine r_aload_n (pc := 136) B dX8_nextToken_136 rfl ?_
      refine r_geti (pc := 137) B FX8_227 rfl rfl dX8_nextToken_137 ?_
      rw [h16]
      refine r_iconst (pc := 140) (x := 2) B dX8_nextToken_140 (by decide) ?_
      refine r_icmp_ne (pc := 141) B 211 dX8_nextToken_141 (by decide) (fun h141 => ?_) (fun h141 => ?_)
      · skip
        exact hJ211 q v ρ tl hnt (by omega) h16 h17 h18 h19 (e2 h141)
      · skip
        have hK := h141
        refine r_aload_n (pc := 144) B dX8_nextToken_144 rfl ?_
        refine r_aload_n (pc := 145) B dX8_nextToken_145 rfl ?_
        refine r_geti (pc := 146) B FX8_212 rfl rfl dX8_nextToken_146 ?_
        rw [h18]
        refine r_cVi1 (pc := 149) B KX8_218 (e_byteAt l G _ (p := q) (L := L) hL8 (by rw [hnt.2 7 (by omega)]; exact hL) rfl (by omega)) rfl rfl (by decide) (Nat.le_of_ble_eq_true rfl) dX8_nextToken_149 ?_
        rw [show ρ 71 = σ 71 from hnt.1 71 (by decide)]
        refine r_cSi1 (pc := 152) B KX8_224 (e_isDigit l G _ _ _) (by decide) (Nat.le_of_ble_eq_true rfl) dX8_nextToken_152 ?_
        refine r_if_eq (pc := 155) B 211 dX8_nextToken_155 (by decide) (fun h155 => ?_) (fun h155 => ?_)
        · skip
          exact hJ211 q v ρ tl hnt (by omega) h16 h17 h18 h19 (by rw [← e1 hK, scN, show dl (tkO (bA (σ 71) L (sk (σ 71) L b))) = 0 by rw [hK]; rfl, Nat.add_zero])
        · skip
          exact absurd (bI_n.mp h155) (by unfold bA; rw [if_neg (by omega), tk_m1]; decide)
    | succ n ih =>
      intro q v ρ tl hq hv hnt h16 h17 h18 h19 e1 e2
      refine r_aload_n (pc := 136) B dX8_nextToken_136 rfl ?_
      refine r_geti (pc := 137) B FX8_227 rfl rfl dX8_nextToken_137 ?_
      rw [h16]
      refine r_iconst (pc := 140) (x := 2) B dX8_nextToken_140 (by decide) ?_
      refine r_icmp_ne (pc := 141) B 211 dX8_nextToken_141 (by decide) (fun h141 => ?_) (fun h141 => ?_)
      · skip
        exact hJ211 q v ρ tl hnt (by omega) h16 h17 h18 h19 (e2 h141)
      · skip
        have hK := h141
        refine r_aload_n (pc := 144) B dX8_nextToken_144 rfl ?_
        refine r_aload_n (pc := 145) B dX8_nextToken_145 rfl ?_
        refine r_geti (pc := 146) B FX8_212 rfl rfl dX8_nextToken_146 ?_
        rw [h18]
        refine r_cVi1 (pc := 149) B KX8_218 (e_byteAt l G _ (p := q) (L := L) hL8 (by rw [hnt.2 7 (by omega)]; exact hL) rfl (by omega)) rfl rfl (by decide) (Nat.le_of_ble_eq_true rfl) dX8_nextToken_149 ?_
        rw [show ρ 71 = σ 71 from hnt.1 71 (by decide)]
        rw [show bA (σ 71) L q = σ 71 q by unfold bA; rw [if_pos (by omega)]]
        refine r_cSi1 (pc := 152) B KX8_224 (e_isDigit l G _ _ _) (by decide) (Nat.le_of_ble_eq_true rfl) dX8_nextToken_152 ?_
        refine r_if_eq (pc := 155) B 211 dX8_nextToken_155 (by decide) (fun h155 => ?_) (fun h155 => ?_)
        · skip
          exact hJ211 q v ρ tl hnt (by omega) h16 h17 h18 h19 (by rw [← e1 hK, scN, if_neg (bI_0.mp h155), show dl (tkO (bA (σ 71) L (sk (σ 71) L b))) = 0 by rw [hK]; rfl, Nat.add_zero])
        · skip
          have hd := bI_n.mp h155
          obtain ⟨d, hd1, hd2, hd3⟩ := tk2 hd
          refine r_aload_n (pc := 158) B dX8_nextToken_158 rfl ?_
          have hJ195 : ∀ z : Int32, z = nI (vS v (σ 71 q)) → V X G shT ρ [some (.ref (ad G 65)), tl] [.int z, .ref (ad G 65)] 195 := by
            intro z hz
            refine r_puti (pc := 195) B PX8_230 rfl rfl dX8_nextToken_195 ?_
            rw [hz]
            refine r_aload_n (pc := 198) B dX8_nextToken_198 rfl ?_
            refine r_dup (pc := 199) B rfl dX8_nextToken_199 ?_
            refine r_geti (pc := 200) B FX8_212 rfl rfl dX8_nextToken_200 ?_
            rw [st_ne (by decide), h18]
            refine r_iconst (pc := 203) (x := 1) B dX8_nextToken_203 (by decide) ?_
            refine r_iadd (pc := 204) B dX8_nextToken_204 ?_
            rw [nI_1]
            refine r_puti (pc := 205) B PX8_212 rfl rfl dX8_nextToken_205 ?_
            refine r_goto (pc := 208) B 136 dX8_nextToken_208 (by decide) ?_
            have hvb : vS v (σ 71 q) < 100000 := by unfold vS; rw [hd3, nI_clamp (by omega)]; split <;> omega
            exact ih (q + 1) (vS v (σ 71 q)) _ tl (by omega) hvb ((hnt.st (by omega) (by omega) _).st (by omega) (by omega) _) (by rw [st_ne (by decide), st_ne (by decide)]; exact h16) (by rw [st_ne (by decide), st_ne (by decide)]; exact h17) (by rw [st_at]) (by rw [st_ne (by decide), st_at]) (fun h => by have e := e1 h; rw [scN, if_pos hd, if_pos rfl] at e; exact e) (fun h => absurd hK h)
          refine r_aload_n (pc := 159) B dX8_nextToken_159 rfl ?_
          refine r_geti (pc := 160) B FX8_230 rfl rfl dX8_nextToken_160 ?_
          rw [h19]
          refine r_sipush (pc := 163) (x := 999) B dX8_nextToken_163 (by decide) ?_
          refine r_icmp_le (pc := 166) B 176 dX8_nextToken_166 (by decide) (fun h166 => ?_) (fun h166 => ?_)
          · skip
            refine r_bipush (pc := 176) (x := 10) B dX8_nextToken_176 (by decide) ?_
            refine r_aload_n (pc := 178) B dX8_nextToken_178 rfl ?_
            refine r_geti (pc := 179) B FX8_230 rfl rfl dX8_nextToken_179 ?_
            rw [h19]
            refine r_imul (pc := 182) B dX8_nextToken_182 ?_
            refine r_aload_n (pc := 183) B dX8_nextToken_183 rfl ?_
            refine r_aload_n (pc := 184) B dX8_nextToken_184 rfl ?_
            refine r_geti (pc := 185) B FX8_212 rfl rfl dX8_nextToken_185 ?_
            rw [h18]
            refine r_cVi1 (pc := 188) B KX8_218 (e_byteAt l G _ (p := q) (L := L) hL8 (by rw [hnt.2 7 (by omega)]; exact hL) rfl (by omega)) rfl rfl (by decide) (Nat.le_of_ble_eq_true rfl) dX8_nextToken_188 ?_
            rw [show ρ 71 = σ 71 from hnt.1 71 (by decide)]
            rw [show bA (σ 71) L q = σ 71 q by unfold bA; rw [if_pos (by omega)]]
            refine r_iadd (pc := 191) B dX8_nextToken_191 ?_
            refine r_bipush (pc := 192) (x := 48) B dX8_nextToken_192 (by decide) ?_
            refine r_isub (pc := 194) B dX8_nextToken_194 ?_
            exact hJ195 _ (by unfold vS; first | (rw [if_pos (show 999 < v by rcases Nat.lt_or_ge 999 v with q2 | q2; exact q2; exact absurd ((nI_leI (b := 999) (by omega) (by omega)).mpr q2) h166)]) | (have h9 : v ≤ 999 := (nI_leI (b := 999) (by omega) (by omega)).mp h166; rw [if_neg (by omega), hd3, nI_clamp (by omega), ten_v v (by omega), nI_add, show (48 : Int32) = nI 48 from rfl, show 10 * v + d = (10 * v + (d - 48)) + 48 by omega, ← nI_add (10 * v + (d - 48)) 48, Int32.add_sub_cancel]))
          · skip
            refine r_aload_n (pc := 169) B dX8_nextToken_169 rfl ?_
            refine r_geti (pc := 170) B FX8_230 rfl rfl dX8_nextToken_170 ?_
            rw [h19]
            refine r_goto (pc := 173) B 195 dX8_nextToken_173 (by decide) ?_
            exact hJ195 _ (by unfold vS; first | (rw [if_pos (show 999 < v by rcases Nat.lt_or_ge 999 v with q2 | q2; exact q2; exact absurd ((nI_leI (b := 999) (by omega) (by omega)).mpr q2) h166)]) | (have h9 : v ≤ 999 := (nI_leI (b := 999) (by omega) (by omega)).mp h166; rw [if_neg (by omega), hd3, nI_clamp (by omega), ten_v v (by omega), nI_add, show (48 : Int32) = nI 48 from rfl, show 10 * v + d = (10 * v + (d - 48)) + 48 by omega, ← nI_add (10 * v + (d - 48)) 48, Int32.add_sub_cancel]))
  have hL101 : ∀ (n q : Nat) (ρ : Sg) (tl : Option Value), q + n = L → nt σ ρ → ρ 65 16 = (tkO (bA (σ 71) L (sk (σ 71) L b))) → ρ 65 17 = nI (sk (σ 71) L b) → ρ 65 18 = nI q → ρ 65 19 = nI 0 → ((tkO (bA (σ 71) L (sk (σ 71) L b))) = 1 → scN (σ 71) 1 n q 0 = (scN (σ 71) (tkO (bA (σ 71) L (sk (σ 71) L b))) (fuelT L (tkO (bA (σ 71) L (sk (σ 71) L b))) (sk (σ 71) L b)) (sk (σ 71) L b) 0)) → (¬ (tkO (bA (σ 71) L (sk (σ 71) L b))) = 1 → q = (sk (σ 71) L b)) → V X G shT ρ [some (.ref (ad G 65)), tl] [] 101 := by
    intro n
    induction n with
    | zero =>
      intro q ρ tl hq hnt h16 h17 h18 h19 e1 e2
      refine r_aload_n (pc := 101) B dX8_nextToken_101 rfl ?_
      refine r_geti (pc := 102) B FX8_227 rfl rfl dX8_nextToken_102 ?_
      rw [h16]
      refine r_iconst (pc := 105) (x := 1) B dX8_nextToken_105 (by decide) ?_
      refine r_icmp_ne (pc := 106) B 136 dX8_nextToken_106 (by decide) (fun h106 => ?_) (fun h106 => ?_)
      · skip
        have hK := h106
        have eq := e2 hK
        exact hL136 0 q 0 ρ tl (by omega) (by omega) hnt h16 h17 h18 h19 (fun h => by have hf : fuelT L (tkO (bA (σ 71) L (sk (σ 71) L b))) (sk (σ 71) L b) = 0 := (by unfold fuelT; rw [if_pos (Or.inr h)]; omega); rw [hf, eq, h]) (fun h => by rw [eq]; exact oth hK h)
      · skip
        have hK := h106
        refine r_aload_n (pc := 109) B dX8_nextToken_109 rfl ?_
        refine r_aload_n (pc := 110) B dX8_nextToken_110 rfl ?_
        refine r_geti (pc := 111) B FX8_212 rfl rfl dX8_nextToken_111 ?_
        rw [h18]
        refine r_cVi1 (pc := 114) B KX8_218 (e_byteAt l G _ (p := q) (L := L) hL8 (by rw [hnt.2 7 (by omega)]; exact hL) rfl (by omega)) rfl rfl (by decide) (Nat.le_of_ble_eq_true rfl) dX8_nextToken_114 ?_
        rw [show ρ 71 = σ 71 from hnt.1 71 (by decide)]
        refine r_cSi1 (pc := 117) B KX8_221 (e_isLetter l G _ _ _) (by decide) (Nat.le_of_ble_eq_true rfl) dX8_nextToken_117 ?_
        refine r_if_eq (pc := 120) B 136 dX8_nextToken_120 (by decide) (fun h120 => ?_) (fun h120 => ?_)
        · skip
          exact hL136 0 q 0 ρ tl (by omega) (by omega) hnt h16 h17 h18 h19 (fun h => absurd (hK.symm.trans h) (by decide)) (fun _ => by rw [← e1 hK, scN, show dl (tkO (bA (σ 71) L (sk (σ 71) L b))) = 0 by rw [hK]; rfl, Nat.add_zero])
        · skip
          exact absurd (bI_n.mp h120) (by unfold bA; rw [if_neg (by omega), tk_m1]; decide)
    | succ n ih =>
      intro q ρ tl hq hnt h16 h17 h18 h19 e1 e2
      refine r_aload_n (pc := 101) B dX8_nextToken_101 rfl ?_
      refine r_geti (pc := 102) B FX8_227 rfl rfl dX8_nextToken_102 ?_
      rw [h16]
      refine r_iconst (pc := 105) (x := 1) B dX8_nextToken_105 (by decide) ?_
      refine r_icmp_ne (pc := 106) B 136 dX8_nextToken_106 (by decide) (fun h106 => ?_) (fun h106 => ?_)
      · skip
        have hK := h106
        have eq := e2 hK
        exact hL136 (n + 1) q 0 ρ tl (by omega) (by omega) hnt h16 h17 h18 h19 (fun h => by have hf : fuelT L (tkO (bA (σ 71) L (sk (σ 71) L b))) (sk (σ 71) L b) = (n + 1) := (by unfold fuelT; rw [if_pos (Or.inr h)]; omega); rw [hf, eq, h]) (fun h => by rw [eq]; exact oth hK h)
      · skip
        have hK := h106
        refine r_aload_n (pc := 109) B dX8_nextToken_109 rfl ?_
        refine r_aload_n (pc := 110) B dX8_nextToken_110 rfl ?_
        refine r_geti (pc := 111) B FX8_212 rfl rfl dX8_nextToken_111 ?_
        rw [h18]
        refine r_cVi1 (pc := 114) B KX8_218 (e_byteAt l G _ (p := q) (L := L) hL8 (by rw [hnt.2 7 (by omega)]; exact hL) rfl (by omega)) rfl rfl (by decide) (Nat.le_of_ble_eq_true rfl) dX8_nextToken_114 ?_
        rw [show ρ 71 = σ 71 from hnt.1 71 (by decide)]
        rw [show bA (σ 71) L q = σ 71 q by unfold bA; rw [if_pos (by omega)]]
        refine r_cSi1 (pc := 117) B KX8_221 (e_isLetter l G _ _ _) (by decide) (Nat.le_of_ble_eq_true rfl) dX8_nextToken_117 ?_
        refine r_if_eq (pc := 120) B 136 dX8_nextToken_120 (by decide) (fun h120 => ?_) (fun h120 => ?_)
        · skip
          exact hL136 (n + 1) q 0 ρ tl (by omega) (by omega) hnt h16 h17 h18 h19 (fun h => absurd (hK.symm.trans h) (by decide)) (fun _ => by rw [← e1 hK, scN, if_neg (bI_0.mp h120), show dl (tkO (bA (σ 71) L (sk (σ 71) L b))) = 0 by rw [hK]; rfl, Nat.add_zero])
        · skip
          have hd := bI_n.mp h120
          refine r_aload_n (pc := 123) B dX8_nextToken_123 rfl ?_
          refine r_dup (pc := 124) B rfl dX8_nextToken_124 ?_
          refine r_geti (pc := 125) B FX8_212 rfl rfl dX8_nextToken_125 ?_
          rw [h18]
          refine r_iconst (pc := 128) (x := 1) B dX8_nextToken_128 (by decide) ?_
          refine r_iadd (pc := 129) B dX8_nextToken_129 ?_
          rw [nI_1]
          refine r_puti (pc := 130) B PX8_212 rfl rfl dX8_nextToken_130 ?_
          refine r_goto (pc := 133) B 101 dX8_nextToken_133 (by decide) ?_
          exact ih (q + 1) _ tl (by omega) (hnt.st (by omega) (by omega) _) (by rw [st_ne (by decide)]; exact h16) (by rw [st_ne (by decide)]; exact h17) (by rw [st_at]) (by rw [st_ne (by decide)]; exact h19) (fun h => by have e := e1 h; rw [scN, if_pos hd, if_neg (by decide)] at e; exact e) (fun h => absurd hK h)
  refine r_aload_n (pc := 0) B dX8_nextToken_0 rfl ?_
  refine r_aload_n (pc := 1) B dX8_nextToken_1 rfl ?_
  refine r_geti (pc := 2) B FX8_212 rfl rfl dX8_nextToken_2 ?_
  rw [hb]
  refine r_puti (pc := 5) B PX8_215 rfl rfl dX8_nextToken_5 ?_
  have hn0 := (nt.rf σ).st (i := 17) (by omega) (by omega) (nI b)
  have hJ34 : ∀ (ρ : Sg) (tl : Option Value), nt σ ρ → ρ 65 17 = nI (sk (σ 71) L b) → V X G shT ρ [some (.ref (ad G 65)), tl] [] 34 := by
    intro ρ tl hnt h17
    refine r_aload_n (pc := 34) B dX8_nextToken_34 rfl ?_
    refine r_aload_n (pc := 35) B dX8_nextToken_35 rfl ?_
    refine r_geti (pc := 36) B FX8_215 rfl rfl dX8_nextToken_36 ?_
    rw [h17]
    refine r_puti (pc := 39) B PX8_212 rfl rfl dX8_nextToken_39 ?_
    have hn1 := hnt.st (i := 18) (by omega) (by omega) (nI (sk (σ 71) L b))
    refine r_aload_n (pc := 42) B dX8_nextToken_42 rfl ?_
    refine r_aload_n (pc := 43) B dX8_nextToken_43 rfl ?_
    refine r_geti (pc := 44) B FX8_215 rfl rfl dX8_nextToken_44 ?_
    rw [st_ne (by decide), h17]
    refine r_cVi1 (pc := 47) B KX8_218 (e_byteAt l G _ (p := (sk (σ 71) L b)) (L := L) hL8 (by rw [hn1.2 7 (by omega)]; exact hL) rfl (by omega)) rfl rfl (by decide) (Nat.le_of_ble_eq_true rfl) dX8_nextToken_47 ?_
    rw [show st2 ρ 65 18 (nI (sk (σ 71) L b)) 71 = σ 71 from hn1.1 71 (by decide)]
    refine r_istore_1 (pc := 50) B dX8_nextToken_50 (by decide) rfl ?_
    refine r_aload_n (pc := 51) B dX8_nextToken_51 rfl ?_
    have hJ93 : ∀ z : Int32, z = (tkO (bA (σ 71) L (sk (σ 71) L b))) → V X G shT (st2 ρ 65 18 (nI (sk (σ 71) L b))) [some (.ref (ad G 65)), some (.int (bA (σ 71) L (sk (σ 71) L b)))] [.int z, .ref (ad G 65)] 93 := by
      intro z hz
      refine r_puti (pc := 93) B PX8_227 rfl rfl dX8_nextToken_93 ?_
      rw [hz]
      refine r_aload_n (pc := 96) B dX8_nextToken_96 rfl ?_
      refine r_iconst (pc := 97) (x := 0) B dX8_nextToken_97 (by decide) ?_
      refine r_puti (pc := 98) B PX8_230 rfl rfl dX8_nextToken_98 ?_
      exact hL101 (L - (sk (σ 71) L b)) (sk (σ 71) L b) _ _ (by omega) ((hn1.st (by omega) (by omega) _).st (by omega) (by omega) _) (by rw [st_ne (by decide), st_at]) (by rw [st_ne (by decide), st_ne (by decide), st_ne (by decide)]; exact h17) (by rw [st_ne (by decide), st_ne (by decide), st_at]) (by rw [st_at]; rfl) (fun h => by rw [h]; unfold fuelT; rw [if_pos (Or.inl rfl)]) (fun _ => rfl)
    refine r_iload_n (pc := 52) B dX8_nextToken_52 rfl ?_
    refine r_if_ge (pc := 53) B 60 dX8_nextToken_53 (by decide) (fun h53 => ?_) (fun h53 => ?_)
    · skip
      refine r_iload_n (pc := 60) B dX8_nextToken_60 rfl ?_
      refine r_cSi1 (pc := 61) B KX8_221 (e_isLetter l G _ _ _) (by decide) (Nat.le_of_ble_eq_true rfl) dX8_nextToken_61 ?_
      refine r_if_eq (pc := 64) B 71 dX8_nextToken_64 (by decide) (fun h64 => ?_) (fun h64 => ?_)
      · skip
        refine r_iload_n (pc := 71) B dX8_nextToken_71 rfl ?_
        refine r_cSi1 (pc := 72) B KX8_224 (e_isDigit l G _ _ _) (by decide) (Nat.le_of_ble_eq_true rfl) dX8_nextToken_72 ?_
        refine r_if_eq (pc := 75) B 82 dX8_nextToken_75 (by decide) (fun h75 => ?_) (fun h75 => ?_)
        · skip
          refine r_iload_n (pc := 82) B dX8_nextToken_82 rfl ?_
          refine r_bipush (pc := 83) (x := 59) B dX8_nextToken_83 (by decide) ?_
          refine r_icmp_ne (pc := 85) B 92 dX8_nextToken_85 (by decide) (fun h85 => ?_) (fun h85 => ?_)
          · skip
            refine r_iconst (pc := 92) (x := 4) B dX8_nextToken_92 (by decide) ?_
            exact hJ93 _ (by first | (unfold tkO; rw [if_pos (Int32.not_le.mp h53)]) | (rw [bI_n.mp h64]) | (rw [bI_n.mp h75]) | (have n1 := bI_0.mp h64; have n2 := bI_0.mp h75; unfold tkO at n1 n2 ⊢; clear hJ93 hJ211 hL136 hL101 B R oth; grind))
          · skip
            refine r_iconst (pc := 88) (x := 3) B dX8_nextToken_88 (by decide) ?_
            refine r_goto (pc := 89) B 93 dX8_nextToken_89 (by decide) ?_
            exact hJ93 _ (by first | (unfold tkO; rw [if_pos (Int32.not_le.mp h53)]) | (rw [bI_n.mp h64]) | (rw [bI_n.mp h75]) | (have n1 := bI_0.mp h64; have n2 := bI_0.mp h75; unfold tkO at n1 n2 ⊢; clear hJ93 hJ211 hL136 hL101 B R oth; grind))
        · skip
          refine r_iconst (pc := 78) (x := 2) B dX8_nextToken_78 (by decide) ?_
          refine r_goto (pc := 79) B 93 dX8_nextToken_79 (by decide) ?_
          exact hJ93 _ (by first | (unfold tkO; rw [if_pos (Int32.not_le.mp h53)]) | (rw [bI_n.mp h64]) | (rw [bI_n.mp h75]) | (have n1 := bI_0.mp h64; have n2 := bI_0.mp h75; unfold tkO at n1 n2 ⊢; clear hJ93 hJ211 hL136 hL101 B R oth; grind))
      · skip
        refine r_iconst (pc := 67) (x := 1) B dX8_nextToken_67 (by decide) ?_
        refine r_goto (pc := 68) B 93 dX8_nextToken_68 (by decide) ?_
        exact hJ93 _ (by first | (unfold tkO; rw [if_pos (Int32.not_le.mp h53)]) | (rw [bI_n.mp h64]) | (rw [bI_n.mp h75]) | (have n1 := bI_0.mp h64; have n2 := bI_0.mp h75; unfold tkO at n1 n2 ⊢; clear hJ93 hJ211 hL136 hL101 B R oth; grind))
    · skip
      refine r_iconst (pc := 56) (x := 0) B dX8_nextToken_56 (by decide) ?_
      refine r_goto (pc := 57) B 93 dX8_nextToken_57 (by decide) ?_
      exact hJ93 _ (by first | (unfold tkO; rw [if_pos (Int32.not_le.mp h53)]) | (rw [bI_n.mp h64]) | (rw [bI_n.mp h75]) | (have n1 := bI_0.mp h64; have n2 := bI_0.mp h75; unfold tkO at n1 n2 ⊢; clear hJ93 hJ211 hL136 hL101 B R oth; grind))
  have hL8b : ∀ (n p : Nat) (ρ : Sg) (tl : Option Value), p + n = L → nt σ ρ → ρ 65 17 = nI p → (sk (σ 71) L b) = skN (σ 71) n p → V X G shT ρ [some (.ref (ad G 65)), tl] [] 8 := by
    intro n
    induction n with
    | zero =>
      intro p ρ tl hp hnt h17 hs
      refine r_aload_n (pc := 8) B dX8_nextToken_8 rfl ?_
      refine r_aload_n (pc := 9) B dX8_nextToken_9 rfl ?_
      refine r_geti (pc := 10) B FX8_215 rfl rfl dX8_nextToken_10 ?_
      rw [h17]
      refine r_cVi1 (pc := 13) B KX8_218 (e_byteAt l G _ (p := p) (L := L) hL8 (by rw [hnt.2 7 (by omega)]; exact hL) rfl (by omega)) rfl rfl (by decide) (Nat.le_of_ble_eq_true rfl) dX8_nextToken_13 ?_
      rw [show ρ 71 = σ 71 from hnt.1 71 (by decide)]
      refine r_bipush (pc := 16) (x := 32) B dX8_nextToken_16 (by decide) ?_
      refine r_icmp_ne (pc := 18) B 34 dX8_nextToken_18 (by decide) (fun h18 => ?_) (fun h18 => ?_)
      · skip
        exact hJ34 ρ tl hnt (by rw [h17, hs]; rfl)
      · skip
        exact absurd h18 (by unfold bA; rw [if_neg (by omega)]; decide)
    | succ n ih =>
      intro p ρ tl hp hnt h17 hs
      refine r_aload_n (pc := 8) B dX8_nextToken_8 rfl ?_
      refine r_aload_n (pc := 9) B dX8_nextToken_9 rfl ?_
      refine r_geti (pc := 10) B FX8_215 rfl rfl dX8_nextToken_10 ?_
      rw [h17]
      refine r_cVi1 (pc := 13) B KX8_218 (e_byteAt l G _ (p := p) (L := L) hL8 (by rw [hnt.2 7 (by omega)]; exact hL) rfl (by omega)) rfl rfl (by decide) (Nat.le_of_ble_eq_true rfl) dX8_nextToken_13 ?_
      rw [show ρ 71 = σ 71 from hnt.1 71 (by decide), show bA (σ 71) L p = σ 71 p by unfold bA; rw [if_pos (by omega)]]
      refine r_bipush (pc := 16) (x := 32) B dX8_nextToken_16 (by decide) ?_
      refine r_icmp_ne (pc := 18) B 34 dX8_nextToken_18 (by decide) (fun h18 => ?_) (fun h18 => ?_)
      · skip
        exact hJ34 ρ tl hnt (by rw [h17, hs, skN, if_neg h18])
      · skip
        have h32 := h18
        refine r_aload_n (pc := 21) B dX8_nextToken_21 rfl ?_
        refine r_dup (pc := 22) B rfl dX8_nextToken_22 ?_
        refine r_geti (pc := 23) B FX8_215 rfl rfl dX8_nextToken_23 ?_
        rw [h17]
        refine r_iconst (pc := 26) (x := 1) B dX8_nextToken_26 (by decide) ?_
        refine r_iadd (pc := 27) B dX8_nextToken_27 ?_
        rw [nI_1]
        refine r_puti (pc := 28) B PX8_215 rfl rfl dX8_nextToken_28 ?_
        refine r_goto (pc := 31) B 8 dX8_nextToken_31 (by decide) ?_
        exact ih (p + 1) _ tl (by omega) (hnt.st (by omega) (by omega) _) (by rw [st_at]) (by rw [hs, skN, if_pos h32])
  exact hL8b (L - b) b _ _ (by omega) hn0 (by rw [st_at]) rfl

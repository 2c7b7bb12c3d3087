/-! pairs: tape, sheets, image -/
def bt (x : Int32) (i : Nat) : Bool := x.toBitVec.getLsbD i
theorem b_ext {x y : Int32} (h : ∀ i, i < 32 → bt x i = bt y i) : x = y := Int32.toBitVec_inj.mp (BitVec.eq_of_getLsbD_eq (fun i hi => h i hi))
theorem b_and (x y : Int32) (i : Nat) : bt (x &&& y) i = (bt x i && bt y i) := by unfold bt; rw [Int32.toBitVec_and, BitVec.getLsbD_and]
theorem b_big {x : Int32} {i : Nat} (h : 32 ≤ i) : bt x i = false := BitVec.getLsbD_of_ge _ _ h
theorem b_255 (i : Nat) : bt 255 i = decide (i < 8) := by
  rcases Nat.lt_or_ge i 32 with h | h
  · exact (by decide +kernel : ∀ i, i < 32 → bt 255 i = decide (i < 8)) i h
  · rw [b_big h, decide_eq_false (by omega)]
theorem s_l : ∀ n, n < 32 → ((nI n &&& 31).toBitVec.smod 32).toNat = n := by decide +kernel
theorem s_u : ∀ n, n < 32 → (((nI n).toUInt32 &&& Int32.toUInt32 31).toBitVec % 32).toNat = n := by decide +kernel
theorem b_ushr (n : Nat) (hn : n < 32) (x : Int32) (i : Nat) : bt ((x.toUInt32 >>> ((nI n).toUInt32 &&& Int32.toUInt32 31)).toInt32) i = bt x (n + i) := by
  show (x.toUInt32 >>> ((nI n).toUInt32 &&& Int32.toUInt32 31)).toBitVec.getLsbD i = x.toUInt32.toBitVec.getLsbD (n + i)
  rw [UInt32.toBitVec_shiftRight]
  show (x.toUInt32.toBitVec >>> (((nI n).toUInt32 &&& Int32.toUInt32 31).toBitVec % 32).toNat).getLsbD i = _
  rw [s_u n hn, BitVec.getLsbD_ushiftRight]
theorem b_sshr (n : Nat) (hn : n < 32) (x : Int32) {i : Nat} (hi : i < 32) : bt (x >>> (nI n &&& 31)) i = if n + i < 32 then bt x (n + i) else bt x 31 := by
  unfold bt
  rw [Int32.toBitVec_shiftRight]
  show (x.toBitVec.sshiftRight ((nI n &&& 31).toBitVec.smod 32).toNat).getLsbD i = _
  rw [s_l n hn, BitVec.getLsbD_sshiftRight, BitVec.msb_eq_getLsbD_last]
  simp [hi]
theorem nx_and (a b : Nat) : nI a &&& nI b = nI (a &&& b) := by
  apply Int32.toBitVec_inj.1
  show BitVec.ofNat 32 a &&& BitVec.ofNat 32 b = BitVec.ofNat 32 (a &&& b)
  apply BitVec.eq_of_getLsbD_eq
  intro i hi
  simp [hi]
theorem wb_of32 (x : Int32) : ∃ n, n < 2 ^ 32 ∧ x = nI n := ⟨x.toBitVec.toNat, x.toBitVec.isLt, Int32.toBitVec_inj.mp (by show _ = BitVec.ofNat 32 _; simp)⟩
theorem by_eq (b : Int32) {n : Nat} (h : n < 4) : byF b n = byR b n := by
  unfold byF byR
  have e : (8 : Int32) * nI n = nI (8 * n) := (by decide +kernel : ∀ n, n < 4 → (8 : Int32) * nI n = nI (8 * n)) n h
  rw [e]
  refine b_ext (fun i hi => ?_)
  rw [b_and, b_and, b_255]
  by_cases h8 : i < 8
  · rw [b_ushr _ (by omega), b_sshr _ (by omega) _ hi, if_pos (by omega)]
  · simp [h8]
theorem by_pos (b : Int32) (n : Nat) : ¬ byF b n < 0 := by
  unfold byF
  obtain ⟨m, -, hm⟩ := wb_of32 (b.toUInt32 >>> ((8 * nI n).toUInt32 &&& Int32.toUInt32 31)).toInt32
  rw [hm, show (255 : Int32) = nI 255 from rfl, nx_and]
  have : m &&& 255 ≤ 255 := Nat.and_le_right
  exact nI_pos (by omega)
theorem apT_ne {σ : Sg} {b : Int32} {L m k : Nat} (h : k ≠ 52) (h2 : k ≠ 53) : apT σ b L m k = σ k := by funext n; simp [apT, h, h2]
theorem apR_ne {σ : Sg} {b : Int32} {L m j k : Nat} (h : k ≠ 65) (h2 : k ≠ 71) : apR σ b L m j k = σ k := by funext n; simp [apR, h, h2]
theorem apR_65 {σ : Sg} {b : Int32} {L m j n : Nat} (h : n ≠ 7) : apR σ b L m j 65 n = σ 65 n := by simp [apR, h]
theorem fill_ne {σ : Sg} {k n a : Nat} {v : Int32} (h : a ≠ k) : fillS σ k n v a = σ a := by funext b; simp [fillS, h]
theorem clS_ne {σ : Sg} {s n k : Nat} (h : k ≠ 74) : clS σ s n k = σ k := by funext a; simp [clS, h]
theorem cp2_ne {σ : Sg} {a sp c dp n k : Nat} (h : k ≠ c) : cp2 σ a sp c dp n k = σ k := by unfold cp2 va_up; rw [if_neg h]
theorem cpR_ne {σ : Sg} {A B c k : Nat} (h : k ≠ 74) : cpR σ A B c k = σ k := by funext a; simp [cpR, h]
/-- the tape changes -/
theorem o_tp {i : Nat} {σ υ : Sg} (I : wI i σ) (h : ∀ k, k ≠ 52 → k ≠ 53 → k ≠ 65 → k ≠ 71 → υ k = σ k) (h4 : υ 65 4 = σ 65 4) (g : Tp υ) : wI (i + 1) υ :=
  ⟨Rw.kp I (fun k q => h k (by omega) (by omega) (by omega) (by omega)), Kp.kp I h4 (fun k q => h k (by omega) (by omega) (by omega) (by omega)), g, Shs.kp I (fun k q => h k (by omega) (by omega) (by omega) (by omega)), Fds.kp I (fun k q => h k (by omega) (by omega) (by omega) (by omega))⟩
/-- sheets change -/
theorem o_sh {i : Nat} {σ υ : Sg} (I : wI i σ) (h : ∀ k, k < 57 ∨ (65 ≤ k ∧ k < 72) → υ k = σ k) (g : Shs υ) : wI (i + 1) υ :=
  ⟨Rw.kp I (fun k q => h k (by omega)), Kp.kp I (by rw [h 65 (by omega)]) (fun k q => h k (by omega)), Tp.kp I (by rw [h 65 (by omega)]) (fun k q => h k (by omega)), g, Fds.kp I (fun k q => h k (by omega))⟩
/-- what is kept changes -/
theorem o_kp {i : Nat} {σ υ : Sg} (I : wI i σ) (h : ∀ k, k ≠ 0 → (k < 16 ∨ 31 ≤ k) → k ≠ 65 → k ≠ 67 → υ k = σ k) (h7 : υ 65 7 = σ 65 7) (g : Kp (i + 1) υ) : wI (i + 1) υ :=
  ⟨Rw.kp I (fun k q => h k (by omega) (by omega) (by omega) (by omega)), g, Tp.kp I h7 (fun k q => h k (by omega) (by omega) (by omega) (by omega)), Shs.kp I (fun k q => h k (by omega) (by omega) (by omega) (by omega)), Fds.kp I (fun k q => h k (by omega) (by omega) (by omega) (by omega))⟩
theorem fd_in {n : Int32} {m : Nat} (h1 : 1 ≤ m) (h4 : m ≤ 4) (hn : n = nI m) : ¬ (n < 1 ∨ ¬ n ≤ 4) := by
  subst hn
  have := (by decide +kernel : ∀ m, m < 5 → 1 ≤ m → ¬ (nI m < 1 ∨ ¬ nI m ≤ 4)) m (by omega) h1
  exact this
theorem tp_ap {i L m : Nat} {σ : Sg} {b : Int32} (I : wI i σ) (h1 : σ 52 1 = nI L) (h2 : σ 65 7 = nI L) (hm : 1 ≤ m) (hm4 : m ≤ 4) (hL : L + m ≤ 120) : Tp (apR (apT σ b L m) b L m m) := by
  refine ⟨⟨L + m, hL, ?_, ?_⟩, fun p hp => ?_⟩
  · rw [apR_ne (by omega) (by omega)]; simp [apT]
  · simp [apR]
  · obtain ⟨q1, q2⟩ := I.2.2.1.2 p hp
    rw [apR_ne (k := 53) (by omega) (by omega)]
    have e71 : apR (apT σ b L m) b L m m 71 p = if L ≤ p ∧ p < L + m then byR b (m - 1 - (p - L)) else σ 71 p := by simp [apR, apT]
    have e53 : apT σ b L m 53 p = if L ≤ p ∧ p < L + m then byF b (m - 1 - (p - L)) else σ 53 p := by simp [apT]
    rw [e71, e53]
    by_cases h : L ≤ p ∧ p < L + m
    · rw [if_pos h, if_pos h, by_eq b (by omega)]
      exact ⟨rfl, by rw [← by_eq b (by omega)]; exact by_pos _ _⟩
    · rw [if_neg h, if_neg h]; exact ⟨q1, q2⟩
theorem tp_wi {i : Nat} {σ : Sg} (I : wI i σ) : Tp (st2 (st2 σ 52 1 0) 65 7 0) := by
  refine ⟨⟨0, by omega, by rw [st2_cl _ _ _ _ (by decide), st2_at]; rfl, by rw [st2_at]; rfl⟩, fun p hp => ?_⟩
  rw [st2_cl _ _ _ _ (by decide), st2_cl _ _ _ _ (by decide), st2_cl _ _ _ _ (by decide), st2_cl _ _ _ _ (by decide)]
  exact I.2.2.1.2 p hp
/-- one sheet changes, the others stand -/
theorem sh_one {i s : Nat} {σ υ : Sg} (I : wI i σ) (h1 : ∀ k, 57 ≤ k → k ≤ 64 → k ≠ 57 + 2 * s → k ≠ 58 + 2 * s → υ k = σ k) (h2 : ∀ a, a ≠ s → υ 72 a = σ 72 a ∧ υ 73 a = σ 73 a) (h3 : ∀ a, a < 40 * s ∨ 40 * s + 40 ≤ a → υ 74 a = σ 74 a) (g : (∃ m, m ≤ 40 ∧ υ (57 + 2 * s) 2 = nI m ∧ υ 73 s = nI m) ∧ BT (υ (57 + 2 * s) 1) (υ 72 s) ∧ ∀ k, k < 40 → υ (58 + 2 * s) k = υ 74 (40 * s + k)) : Shs υ := by
  intro a ha
  by_cases e : a = s
  · subst e; exact g
  · obtain ⟨q1, q2, q3⟩ := I.2.2.2.1 a ha
    rw [h1 (57 + 2 * a) (by omega) (by omega) (by omega) (by omega), h1 (58 + 2 * a) (by omega) (by omega) (by omega) (by omega), (h2 a e).1, (h2 a e).2]
    refine ⟨q1, q2, fun k hk => ?_⟩
    rw [h3 _ (by omega)]
    exact q3 k hk
theorem st2_ap {σ : Sg} {k n a b : Nat} {v : Int32} : st2 σ k n v a b = if a = k ∧ b = n then v else σ a b := by
  unfold st2
  by_cases h : a = k
  · by_cases h2 : b = n
    · simp [h, h2]
    · simp [h, h2]
  · simp [h]
theorem sh_sheet {i s m : Nat} {σ : Sg} {bt n : Int32} (I : wI i σ) (hs : s < 4) (hm : m ≤ 40) (hn : n = nI m) (hb : bt = 0 ∨ bt = 8 ∨ bt = 16 ∨ bt = 32) : Shs (shF (st2 (st2 (fillS σ (58 + 2 * s) 40 0) (57 + 2 * s) 1 bt) (57 + 2 * s) 2 (if bt = 0 then 0 else n)) s bt n) := by
  refine sh_one (s := s) I (fun k a b c d => ?_) (fun a ha => ⟨?_, ?_⟩) (fun a ha => ?_) ⟨⟨if bt = 0 then 0 else m, by split <;> omega, ?_, ?_⟩, ?_, fun k hk => ?_⟩
  · unfold shF
    rw [clS_ne (by omega), st2_cl _ _ _ _ (by omega), st2_cl _ _ _ _ (by omega), st2_cl _ _ _ _ (by omega), st2_cl _ _ _ _ (by omega), fill_ne (by omega)]
  · unfold shF
    rw [clS_ne (by omega), st2_cl _ _ _ _ (by omega), st2_ap, if_neg (by omega), st2_cl _ _ _ _ (by omega), st2_cl _ _ _ _ (by omega), fill_ne (by omega)]
  · unfold shF
    rw [clS_ne (by omega), st2_ap, if_neg (by omega), st2_cl _ _ _ _ (by omega), st2_cl _ _ _ _ (by omega), st2_cl _ _ _ _ (by omega), fill_ne (by omega)]
  · unfold shF clS
    rw [if_neg (by omega), st2_cl _ _ _ _ (by omega), st2_cl _ _ _ _ (by omega), st2_cl _ _ _ _ (by omega), st2_cl _ _ _ _ (by omega), fill_ne (by omega)]
  · unfold shF
    rw [clS_ne (by omega), st2_cl _ _ _ _ (by omega), st2_cl _ _ _ _ (by omega), st2_at]
    split
    · rfl
    · exact hn
  · unfold shF
    rw [clS_ne (by omega), st2_at]
    split
    · rfl
    · exact hn
  · have e1 : shF (st2 (st2 (fillS σ (58 + 2 * s) 40 0) (57 + 2 * s) 1 bt) (57 + 2 * s) 2 (if bt = 0 then 0 else n)) s bt n (57 + 2 * s) 1 = bt := by
      unfold shF
      rw [clS_ne (by omega), st2_cl _ _ _ _ (by omega), st2_cl _ _ _ _ (by omega), st2_ap, if_neg (by omega), st2_at]
    have e2 : shF (st2 (st2 (fillS σ (58 + 2 * s) 40 0) (57 + 2 * s) 1 bt) (57 + 2 * s) 2 (if bt = 0 then 0 else n)) s bt n 72 s = if bt = 0 then -1 else bt := by
      unfold shF
      rw [clS_ne (by omega), st2_cl _ _ _ _ (by omega), st2_at]
    rw [e1, e2]
    rcases hb with rfl | rfl | rfl | rfl
    · exact Or.inl ⟨rfl, rfl⟩
    · exact Or.inr ⟨rfl, by decide⟩
    · exact Or.inr ⟨rfl, by decide⟩
    · exact Or.inr ⟨rfl, by decide⟩
  · have e1 : shF (st2 (st2 (fillS σ (58 + 2 * s) 40 0) (57 + 2 * s) 1 bt) (57 + 2 * s) 2 (if bt = 0 then 0 else n)) s bt n (58 + 2 * s) k = 0 := by
      unfold shF
      rw [clS_ne (by omega), st2_cl _ _ _ _ (by omega), st2_cl _ _ _ _ (by omega), st2_cl _ _ _ _ (by omega), st2_cl _ _ _ _ (by omega)]
      unfold fillS
      rw [if_pos ⟨rfl, hk⟩]
    rw [e1]
    unfold shF clS
    rw [if_pos (by omega)]
theorem sh_write {i s m k : Nat} {σ : Sg} {v : Int32} (I : wI i σ) (hs : s < 4) (hk : k < 40) (hb : ¬ σ (57 + 2 * s) 1 = 0) : Shs (st2 (st2 σ (58 + 2 * s) k (putF (σ (57 + 2 * s) 1) v)) 74 (40 * s + k) (putF (σ 72 s) v)) := by
  obtain ⟨q1, q2, q3⟩ := I.2.2.2.1 s hs
  have e : σ (57 + 2 * s) 1 = σ 72 s := q2.elim (fun q => absurd q.1 hb) (fun q => q.1)
  refine sh_one (s := s) I (fun k a b c d => ?_) (fun a ha => ⟨?_, ?_⟩) (fun a ha => ?_) ⟨?_, ?_, fun k' hk' => ?_⟩
  · rw [st2_cl _ _ _ _ (by omega), st2_cl _ _ _ _ (by omega)]
  · rw [st2_cl _ _ _ _ (by omega), st2_cl _ _ _ _ (by omega)]
  · rw [st2_cl _ _ _ _ (by omega), st2_cl _ _ _ _ (by omega)]
  · rw [st2_ap, if_neg (by omega), st2_cl _ _ _ _ (by omega)]
  · rw [st2_cl _ _ _ _ (by omega), st2_cl _ _ _ _ (by omega), st2_cl _ _ _ _ (by omega), st2_cl _ _ _ _ (by omega)]; exact q1
  · rw [st2_cl _ _ _ _ (by omega), st2_cl _ _ _ _ (by omega), st2_cl _ _ _ _ (by omega), st2_cl _ _ _ _ (by omega)]; exact q2
  · rw [st2_cl _ _ _ _ (by omega), st2_ap, st2_ap]
    by_cases h : k' = k
    · subst h; rw [if_pos ⟨rfl, rfl⟩, if_pos ⟨rfl, rfl⟩, e]
    · rw [if_neg (by omega), if_neg (by omega), st2_cl _ _ _ _ (by omega)]; exact q3 k' hk'
theorem sh_copy {i s t a b c : Nat} {σ : Sg} (I : wI i σ) (hs : s < 4) (ht : t < 4) (ha : a + c ≤ 40) (hb : b + c ≤ 40) : Shs (cpR (cp2 σ (58 + 2 * s) a (58 + 2 * t) b c) (40 * s + a) (40 * t + b) c) := by
  obtain ⟨q1, q2, q3⟩ := I.2.2.2.1 t ht
  have r3 := (I.2.2.2.1 s hs).2.2
  refine sh_one (s := t) I (fun k a b c d => ?_) (fun a ha => ⟨?_, ?_⟩) (fun a ha => ?_) ⟨?_, ?_, fun k' hk' => ?_⟩
  · rw [cpR_ne (by omega), cp2_ne (by omega)]
  · rw [cpR_ne (by omega), cp2_ne (by omega)]
  · rw [cpR_ne (by omega), cp2_ne (by omega)]
  · unfold cpR; rw [if_neg (by omega), cp2_ne (by omega)]
  · rw [cpR_ne (by omega), cp2_ne (by omega), cpR_ne (by omega), cp2_ne (by omega)]; exact q1
  · rw [cpR_ne (by omega), cp2_ne (by omega), cpR_ne (by omega), cp2_ne (by omega)]; exact q2
  · rw [cpR_ne (by omega)]
    have e1 : cp2 σ (58 + 2 * s) a (58 + 2 * t) b c (58 + 2 * t) k' = if b ≤ k' ∧ k' < b + c then σ (58 + 2 * s) (a + (k' - b)) else σ (58 + 2 * t) k' := by
      unfold cp2 va_up va_cpy; rw [if_pos rfl]
    have e2 : cpR (cp2 σ (58 + 2 * s) a (58 + 2 * t) b c) (40 * s + a) (40 * t + b) c 74 (40 * t + k') = if b ≤ k' ∧ k' < b + c then σ 74 (40 * s + (a + (k' - b))) else σ 74 (40 * t + k') := by
      unfold cpR
      by_cases h : b ≤ k' ∧ k' < b + c
      · rw [if_pos (by omega), if_pos h, cp2_ne (by omega), show 40 * s + a + (40 * t + k' - (40 * t + b)) = 40 * s + (a + (k' - b)) by omega]
      · rw [if_neg (by omega), if_neg h, cp2_ne (by omega)]
    rw [e1, e2]
    by_cases h : b ≤ k' ∧ k' < b + c
    · rw [if_pos h, if_pos h]; exact r3 _ (by omega)
    · rw [if_neg h, if_neg h]; exact q3 k' hk'
theorem wr_in {n : Int32} {k m : Nat} (hk : k < m) (hm : m ≤ 40) (hn : n = nI k) : ¬ n < 0 ∧ n < nI m := by
  subst hn
  exact ⟨nI_pos (by omega), (nI_ltI (by omega) (by omega)).mpr hk⟩
theorem has_in {m a c : Nat} (hm : m ≤ 40) (h : a + c ≤ m) : hasP (nI m) (nI a) (nI c) := ⟨nI_pos (by omega), nI_pos (by omega), fun q => by have := (nI_ltI (by omega) (by omega)).mp q; omega, fun q => by have := (cp_iff (m := m) (a := c) (c := a) hm (by omega) (by omega)).mp q; omega⟩
theorem bt_e {a b c d : Int32} (h1 : BT a b) (h2 : BT c d) (ha : ¬ a = 0) (hc : ¬ c = 0) : a = c ↔ b = d := by
  have e1 := h1.elim (fun q => absurd q.1 ha) (fun q => q.1)
  have e2 := h2.elim (fun q => absurd q.1 hc) (fun q => q.1)
  rw [e1, e2]
theorem kp_im {i : Nat} {σ ρ : Sg} (I : wI i σ) (hw : isWr 16 σ ρ (vw 1 σ)) : Kp (i + 1) (st2 (cpN (st2 ρ 0 3 1) 66 67 127) 65 4 1) := by
  have e16 : vw 16 (st2 (cpN (st2 ρ 0 3 1) 66 67 127) 65 4 1) = vw 16 ρ := vw_sm (fun k a b => by rw [st2_cl _ _ _ _ (by omega), cpN_ne (by omega), st2_cl _ _ _ _ (by omega)])
  have e0 : st2 (cpN (st2 ρ 0 3 1) 66 67 127) 65 4 1 0 3 = 1 := by rw [st2_cl _ _ _ _ (by decide), cpN_ne (by decide), st2_at]
  refine ⟨by rw [e0, st2_at], fun _ => ⟨fun j hj => ?_, ?_⟩⟩
  · rw [e16, hw.1 j hj, st2_cl _ _ _ _ (by decide)]
    unfold cpN
    rw [if_pos ⟨rfl, hj⟩, st2_cl _ _ _ _ (by decide), hw.2 66 (by omega)]
    exact I.1.1 j hj
  · rw [e16]
    exact I.1.2.up.cg (fun j hj => hw.1 j hj)
theorem p_feed (l : Launch) (G : GG) {i : Nat} {σ : Sg} (I : Inv i σ) (hi : i ≤ 512) (b n : Int32) : Pr l G i σ mX7_feed 1 mX8_feed 1 [.int b, .int n] := by
  obtain ⟨N, t, hN8, hN, hS, hW, ht, ht1⟩ := I.1.1.2
  have e0 := I.2.1
  obtain ⟨L, hL8, hL, hL7⟩ := I.1.2.2.1.1
  have E := fun (τ : Sg) (es : ∀ k, 65 ≤ k → τ k = σ k) (e : τ 66 = vw 1 σ) => e_feed l G τ b n hL8 ((congrFun (es 65 (by omega)) 7).trans hL7)
  refine (c_feed l G σ b n hL8 hL).mono (fun r τ hc => ?_)
  rcases hc with ⟨hn, rfl, hτ⟩ | ⟨m, m1, m4, hm, ⟨hl, rfl, hτ⟩ | ⟨hl, rfl, hτ⟩⟩
  · have es : ∀ k, 65 ≤ k → τ k = σ k := fun k hk => by rw [hτ]; exact fnd_ne (by omega)
    have e66 : τ 66 = vw 1 σ := (es 66 (by omega)).trans e0
    have E1 := E _ es e66
    try subst hτ
    refine ⟨_, rfl, E1.mono (fun r' υ he => ?_)⟩
    have hN' := (congrFun e66 0).trans hN
    try rw [e66] at he
    rcases he with ⟨-, rfl, rfl⟩ | ⟨m, m1, m4, hm, -⟩
    · skip
      exact ⟨rfl, o_fq I.1 (by decide)⟩
    · skip
      exact absurd hn (fd_in m1 m4 hm)
  · have es : ∀ k, 65 ≤ k → τ k = σ k := fun k hk => by rw [hτ]; exact fnd_ne (by omega)
    have e66 : τ 66 = vw 1 σ := (es 66 (by omega)).trans e0
    have E1 := E _ es e66
    try subst hτ
    refine ⟨_, rfl, E1.mono (fun r' υ he => ?_)⟩
    have hN' := (congrFun e66 0).trans hN
    try rw [e66] at he
    rcases he with ⟨h, -⟩ | ⟨m2, m12, m42, hm2, ⟨-, rfl, rfl⟩ | ⟨h, -⟩⟩
    · skip
      exact absurd h (fd_in m1 m4 hm)
    · skip
      exact ⟨rfl, o_fq I.1 (by decide)⟩
    · skip
      obtain rfl := nI_u hm2 hm (by omega) (by omega)
      omega
  · have es : ∀ k, 65 ≤ k → τ k = σ k := fun k hk => by rw [hτ]; exact apT_ne (by omega) (by omega)
    have e66 : τ 66 = vw 1 σ := (es 66 (by omega)).trans e0
    have E1 := E _ es e66
    try subst hτ
    refine ⟨_, rfl, E1.mono (fun r' υ he => ?_)⟩
    have hN' := (congrFun e66 0).trans hN
    try rw [e66] at he
    rcases he with ⟨h, -⟩ | ⟨m2, m12, m42, hm2, ⟨h, -⟩ | ⟨-, rfl, rfl⟩⟩
    · skip
      exact absurd h (fd_in m1 m4 hm)
    · skip
      obtain rfl := nI_u hm2 hm (by omega) (by omega)
      omega
    · skip
      obtain rfl := nI_u hm2 hm (by omega) (by omega)
      exact ⟨rfl, o_tp I.1 (fun k a b c d => by rw [apR_ne c d, apT_ne a b]) (by rw [apR_65 (by omega), apT_ne (by omega) (by omega)]) (tp_ap I.1 hL hL7 m1 m4 hl)⟩
theorem p_wipe (l : Launch) (G : GG) {i : Nat} {σ : Sg} (I : Inv i σ) (hi : i ≤ 512) : Pr l G i σ mX7_wipe 0 mX8_wipe 0 [] := by
  obtain ⟨N, t, hN8, hN, hS, hW, ht, ht1⟩ := I.1.1.2
  have e0 := I.2.1
  obtain ⟨L, hL8, hL, hL7⟩ := I.1.2.2.1.1
  have E := fun (τ : Sg) (es : ∀ k, 65 ≤ k → τ k = σ k) (e : τ 66 = vw 1 σ) => e_wipe l G τ  
  refine (c_wipe l G σ  ).mono (fun r τ hc => ?_)
  rcases hc with ⟨rfl, hτ⟩
  · have es : ∀ k, 65 ≤ k → τ k = σ k := fun k hk => by rw [hτ]; exact st2_cl _ _ _ _ (by omega)
    have e66 : τ 66 = vw 1 σ := (es 66 (by omega)).trans e0
    have E1 := E _ es e66
    have e65 := es 65 (by omega)
    try subst hτ
    refine ⟨_, rfl, E1.mono (fun r' υ he => ?_)⟩
    have hN' := (congrFun e66 0).trans hN
    try rw [e66] at he
    try rw [e65] at he
    rcases he with ⟨rfl, rfl⟩
    · skip
      refine ⟨by rw [hL, hL7], o_tp I.1 (fun k a b c d => by rw [st2_cl _ _ _ _ c, st2_cl _ _ _ _ a]) (by rw [st2_ap, if_neg (by decide), st2_cl _ _ _ _ (by decide)]) (tp_wi I.1)⟩
theorem p_tear (l : Launch) (G : GG) {i : Nat} {σ : Sg} (I : Inv i σ) (hi : i ≤ 512) : Pr l G i σ mX7_tear 0 mX8_tear 0 [] := by
  obtain ⟨N, t, hN8, hN, hS, hW, ht, ht1⟩ := I.1.1.2
  have e0 := I.2.1
  have E := fun (τ : Sg) (es : ∀ k, 65 ≤ k → τ k = σ k) (e : τ 66 = vw 1 σ) => e_tear l G τ  
  refine (c_tear l G σ  ).mono (fun r τ hc => ?_)
  rcases hc with ⟨rfl, hτ⟩
  · have es : ∀ k, 65 ≤ k → τ k = σ k := fun k hk => by rw [hτ]; exact st2_cl _ _ _ _ (by omega)
    have e66 : τ 66 = vw 1 σ := (es 66 (by omega)).trans e0
    have E1 := E _ es e66
    have e65 := es 65 (by omega)
    try subst hτ
    refine ⟨_, rfl, E1.mono (fun r' υ he => ?_)⟩
    have hN' := (congrFun e66 0).trans hN
    try rw [e66] at he
    try rw [e65] at he
    rcases he with ⟨rfl, rfl⟩
    · skip
      refine ⟨by rw [I.1.2.1.1], o_kp I.1 (fun k a b c d => by rw [st2_cl _ _ _ _ c, st2_cl _ _ _ _ a]) (by rw [st2_ap, if_neg (by decide), st2_cl _ _ _ _ (by decide)]) ⟨by rw [st2_at, st2_cl _ _ _ _ (by decide), st2_at], fun q => absurd (by rw [st2_cl _ _ _ _ (by decide), st2_at]) q⟩⟩
theorem p_image (l : Launch) (G : GG) {i : Nat} {σ : Sg} (I : Inv i σ) (hi : i ≤ 512) : Pr l G i σ mX7_image 3 mX8_image 1 [] := by
  obtain ⟨N, t, hN8, hN, hS, hW, ht, ht1⟩ := I.1.1.2
  have e0 := I.2.1
  have E := fun (τ : Sg) (es : ∀ k, 65 ≤ k → τ k = σ k) (e : τ 66 = vw 1 σ) => e_image l G τ  
  refine (c_image l G σ  ).mono (fun r τ hc => ?_)
  rcases hc with ⟨rfl, ρ, hw, hτ⟩
  · have es : ∀ k, 65 ≤ k → τ k = σ k := fun k hk => by rw [hτ, st2_cl _ _ _ _ (by omega)]; exact hw.2 k (by omega)
    have e66 : τ 66 = vw 1 σ := (es 66 (by omega)).trans e0
    have E1 := E _ es e66
    try subst hτ
    refine ⟨_, rfl, E1.mono (fun r' υ he => ?_)⟩
    have hN' := (congrFun e66 0).trans hN
    try rw [e66] at he
    rcases he with ⟨rfl, rfl⟩
    · skip
      exact ⟨rfl, o_kp I.1 (fun k a b c d => by rw [st2_cl _ _ _ _ c, cpN_ne d, st2_cl _ _ _ _ a]; exact hw.2 k (by omega)) (by rw [st2_ap, if_neg (by decide), cpN_ne (by decide), st2_cl _ _ _ _ (by decide), hw.2 65 (by omega)]) (kp_im I.1 hw)⟩
theorem p_sheet (l : Launch) (G : GG) {i : Nat} {σ : Sg} (I : Inv i σ) (hi : i ≤ 512) (x bt n : Int32) : Pr l G i σ mX7_sheet 2 mX8_sheet 1 [.int x, .int bt, .int n] := by
  obtain ⟨N, t, hN8, hN, hS, hW, ht, ht1⟩ := I.1.1.2
  have e0 := I.2.1
  have E := fun (τ : Sg) (es : ∀ k, 65 ≤ k → τ k = σ k) (e : τ 66 = vw 1 σ) => e_sheet l G τ  x bt n
  refine (c_sheet l G σ  x bt n).mono (fun r τ hc => ?_)
  rcases hc with ⟨hn, rfl, hτ⟩ | ⟨h1, h2, ⟨h3, rfl, hτ⟩ | ⟨h3, h4, rfl, hτ⟩ | ⟨s, m, hs, hx, hm, hnm, rfl, hτ⟩⟩
  · have es : ∀ k, 65 ≤ k → τ k = σ k := fun k hk => by rw [hτ]; exact fnd_ne (by omega)
    have e66 : τ 66 = vw 1 σ := (es 66 (by omega)).trans e0
    have E1 := E _ es e66
    try subst hτ
    refine ⟨_, rfl, E1.mono (fun r' υ he => ?_)⟩
    have hN' := (congrFun e66 0).trans hN
    try rw [e66] at he
    rcases he with ⟨-, rfl, rfl⟩ | ⟨h1, h2, -⟩
    · skip
      exact ⟨rfl, o_fq I.1 (by decide)⟩
    · skip
      exact absurd ⟨h1, h2⟩ hn
  · have es : ∀ k, 65 ≤ k → τ k = σ k := fun k hk => by rw [hτ]; exact fnd_ne (by omega)
    have e66 : τ 66 = vw 1 σ := (es 66 (by omega)).trans e0
    have E1 := E _ es e66
    try subst hτ
    refine ⟨_, rfl, E1.mono (fun r' υ he => ?_)⟩
    have hN' := (congrFun e66 0).trans hN
    try rw [e66] at he
    rcases he with ⟨hn, -⟩ | ⟨-, -, ⟨-, rfl, rfl⟩ | ⟨h, -⟩ | ⟨s, m, hs, hx, hm, hnm, -⟩⟩
    · skip
      exact absurd ⟨h1, h2⟩ hn
    · skip
      exact ⟨rfl, o_fq I.1 (by decide)⟩
    · skip
      exact absurd h3 h
    · skip
      exact absurd (hnm ▸ h3) (nI_pos (by omega))
  · have es : ∀ k, 65 ≤ k → τ k = σ k := fun k hk => by rw [hτ]; exact fnd_ne (by omega)
    have e66 : τ 66 = vw 1 σ := (es 66 (by omega)).trans e0
    have E1 := E _ es e66
    try subst hτ
    refine ⟨_, rfl, E1.mono (fun r' υ he => ?_)⟩
    have hN' := (congrFun e66 0).trans hN
    try rw [e66] at he
    rcases he with ⟨hn, -⟩ | ⟨-, -, ⟨h, -⟩ | ⟨-, -, rfl, rfl⟩ | ⟨s, m, hs, hx, hm, hnm, -⟩⟩
    · skip
      exact absurd ⟨h1, h2⟩ hn
    · skip
      exact absurd h h3
    · skip
      exact ⟨rfl, o_fq I.1 (by decide)⟩
    · skip
      exact absurd ((nI_leI (b := 40) (by omega) (by omega)).mpr hm) (hnm ▸ h4)
  · have es : ∀ k, 65 ≤ k → τ k = σ k := fun k hk => by rw [hτ, st2_cl _ _ _ _ (by omega), st2_cl _ _ _ _ (by omega)]; exact fill_ne (by omega)
    have e66 : τ 66 = vw 1 σ := (es 66 (by omega)).trans e0
    have E1 := E _ es e66
    try subst hτ
    refine ⟨_, rfl, E1.mono (fun r' υ he => ?_)⟩
    have hN' := (congrFun e66 0).trans hN
    try rw [e66] at he
    rcases he with ⟨hn, -⟩ | ⟨-, -, ⟨h, -⟩ | ⟨-, h, -⟩ | ⟨s2, m2, hs2, hx2, hm2, hnm2, rfl, rfl⟩⟩
    · skip
      exact absurd ⟨h1, h2⟩ hn
    · skip
      exact absurd (hnm ▸ h) (nI_pos (by omega))
    · skip
      exact absurd ((nI_leI (b := 40) (by omega) (by omega)).mpr hm) (hnm ▸ h)
    · skip
      obtain rfl := nI_u hx2 hx (by omega) (by omega)
      exact ⟨rfl, o_sh I.1 (fun k q => by unfold shF; rw [clS_ne (by omega), st2_cl _ _ _ _ (by omega), st2_cl _ _ _ _ (by omega), st2_cl _ _ _ _ (by omega), st2_cl _ _ _ _ (by omega), fill_ne (by omega)]) (sh_sheet I.1 hs hm hnm h2)⟩
theorem p_write (l : Launch) (G : GG) {i : Nat} {σ : Sg} (I : Inv i σ) (hi : i ≤ 512) (x n v : Int32) : Pr l G i σ mX7_write 1 mX8_write 1 [.int x, .int n, .int v] := by
  obtain ⟨N, t, hN8, hN, hS, hW, ht, ht1⟩ := I.1.1.2
  have e0 := I.2.1
  have E := fun (τ : Sg) (es : ∀ k, 65 ≤ k → τ k = σ k) (e : τ 66 = vw 1 σ) => e_write l G τ (fun s hs => by rw [es 73 (by omega)]; exact I.szR s hs) x n v
  refine (c_write l G σ I.szP x n v).mono (fun r τ hc => ?_)
  rcases hc with ⟨hn, rfl, hτ⟩ | ⟨s, m, hs, hx, hm, hm4, ⟨hb, rfl, hτ⟩ | ⟨hb, hi2, rfl, hτ⟩ | ⟨hb, k, hk, hn, rfl, hτ⟩⟩
  · have es : ∀ k, 65 ≤ k → τ k = σ k := fun k hk => by rw [hτ]; exact fnd_ne (by omega)
    have e66 : τ 66 = vw 1 σ := (es 66 (by omega)).trans e0
    have E1 := E _ es e66
    have e72 := es 72 (by omega)
    have e73 := es 73 (by omega)
    try subst hτ
    refine ⟨_, rfl, E1.mono (fun r' υ he => ?_)⟩
    have hN' := (congrFun e66 0).trans hN
    try rw [e66] at he
    try rw [e72] at he
    try rw [e73] at he
    rcases he with ⟨-, rfl, rfl⟩ | ⟨s, m, hs, hx, -⟩
    · skip
      exact ⟨rfl, o_fq I.1 (by decide)⟩
    · skip
      exact absurd (sh_i hx hs) hn
  · have es : ∀ k, 65 ≤ k → τ k = σ k := fun k hk => by rw [hτ]; exact fnd_ne (by omega)
    have e66 : τ 66 = vw 1 σ := (es 66 (by omega)).trans e0
    have E1 := E _ es e66
    have e72 := es 72 (by omega)
    have e73 := es 73 (by omega)
    try subst hτ
    refine ⟨_, rfl, E1.mono (fun r' υ he => ?_)⟩
    have hN' := (congrFun e66 0).trans hN
    try rw [e66] at he
    try rw [e72] at he
    try rw [e73] at he
    rcases he with ⟨hn, -⟩ | ⟨s2, m2, hs2, hx2, hm2, hm24, ⟨-, rfl, rfl⟩ | ⟨h, -⟩ | ⟨h, -⟩⟩
    · skip
      exact absurd (sh_i hx hs) hn
    · skip
      exact ⟨rfl, o_fq I.1 (by decide)⟩
    · skip
      obtain rfl := nI_u hx2 hx (by omega) (by omega)
      exact absurd ((I.bt hs).mp hb) h
    · skip
      obtain rfl := nI_u hx2 hx (by omega) (by omega)
      exact absurd ((I.bt hs).mp hb) h
  · have es : ∀ k, 65 ≤ k → τ k = σ k := fun k hk => by rw [hτ]; exact fnd_ne (by omega)
    have e66 : τ 66 = vw 1 σ := (es 66 (by omega)).trans e0
    have E1 := E _ es e66
    have e72 := es 72 (by omega)
    have e73 := es 73 (by omega)
    try subst hτ
    refine ⟨_, rfl, E1.mono (fun r' υ he => ?_)⟩
    have hN' := (congrFun e66 0).trans hN
    try rw [e66] at he
    try rw [e72] at he
    try rw [e73] at he
    rcases he with ⟨hn, -⟩ | ⟨s2, m2, hs2, hx2, hm2, hm24, ⟨h, -⟩ | ⟨-, -, rfl, rfl⟩ | ⟨-, k, hk, hn, -⟩⟩
    · skip
      exact absurd (sh_i hx hs) hn
    · skip
      obtain rfl := nI_u hx2 hx (by omega) (by omega)
      exact absurd ((I.bt hs).mpr h) hb
    · skip
      exact ⟨rfl, o_fq I.1 (by decide)⟩
    · skip
      obtain rfl := nI_u hx2 hx (by omega) (by omega)
      obtain rfl := I.sz hs hm hm4 hm2 hm24
      exact absurd (wr_in hk hm4 hn) hi2
  · have es : ∀ k, 65 ≤ k → τ k = σ k := fun k hk => by rw [hτ]; exact st2_cl _ _ _ _ (by omega)
    have e66 : τ 66 = vw 1 σ := (es 66 (by omega)).trans e0
    have E1 := E _ es e66
    have e72 := es 72 (by omega)
    have e73 := es 73 (by omega)
    try subst hτ
    refine ⟨_, rfl, E1.mono (fun r' υ he => ?_)⟩
    have hN' := (congrFun e66 0).trans hN
    try rw [e66] at he
    try rw [e72] at he
    try rw [e73] at he
    rcases he with ⟨hn, -⟩ | ⟨s2, m2, hs2, hx2, hm2, hm24, ⟨h, -⟩ | ⟨-, h, -⟩ | ⟨-, k2, hk2, hn2, rfl, rfl⟩⟩
    · skip
      exact absurd (sh_i hx hs) hn
    · skip
      obtain rfl := nI_u hx2 hx (by omega) (by omega)
      exact absurd ((I.bt hs).mpr h) hb
    · skip
      obtain rfl := nI_u hx2 hx (by omega) (by omega)
      obtain rfl := I.sz hs hm hm4 hm2 hm24
      exact absurd ⟨k, hk, hn⟩ h
    · skip
      obtain rfl := nI_u hx2 hx (by omega) (by omega)
      obtain rfl := nI_u hn2 hn (by omega) (by omega)
      exact ⟨rfl, o_sh I.1 (fun k q => by rw [st2_cl _ _ _ _ (by omega), st2_cl _ _ _ _ (by omega)]) (sh_write (m := m2) I.1 hs (by omega) hb)⟩
theorem p_copy (l : Launch) (G : GG) {i : Nat} {σ : Sg} (I : Inv i σ) (hi : i ≤ 512) (x f y t0 n : Int32) : Pr l G i σ mX7_copy 1 mX8_copy 1 [.int x, .int f, .int y, .int t0, .int n] := by
  obtain ⟨N, t, hN8, hN, hS, hW, ht, ht1⟩ := I.1.1.2
  have e0 := I.2.1
  have E := fun (τ : Sg) (es : ∀ k, 65 ≤ k → τ k = σ k) (e : τ 66 = vw 1 σ) => e_copy l G τ (fun s hs => by rw [es 73 (by omega)]; exact I.szR s hs) x f y t0 n
  refine (c_copy l G σ I.szP x f y t0 n).mono (fun r τ hc => ?_)
  rcases hc with ⟨hn, rfl, hτ⟩ | ⟨s, t, hs, ht, hx, hy, ⟨hb, rfl, hτ⟩ | ⟨b1, b2, bn, rfl, hτ⟩ | ⟨b1, b2, bn, ⟨hh, rfl, hτ⟩ | ⟨h1, h2, rfl, hτ⟩⟩⟩
  · have es : ∀ k, 65 ≤ k → τ k = σ k := fun k hk => by rw [hτ]; exact fnd_ne (by omega)
    have e66 : τ 66 = vw 1 σ := (es 66 (by omega)).trans e0
    have E1 := E _ es e66
    have e72 := es 72 (by omega)
    have e73 := es 73 (by omega)
    try subst hτ
    refine ⟨_, rfl, E1.mono (fun r' υ he => ?_)⟩
    have hN' := (congrFun e66 0).trans hN
    try rw [e66] at he
    try rw [e72] at he
    try rw [e73] at he
    rcases he with ⟨-, rfl, rfl⟩ | ⟨s, t, m1, m2, hs, ht, hx, hy, -⟩
    · skip
      exact ⟨rfl, o_fq I.1 (by decide)⟩
    · skip
      exact absurd ⟨sh_i hx hs, sh_i hy ht⟩ hn
  · have es : ∀ k, 65 ≤ k → τ k = σ k := fun k hk => by rw [hτ]; exact fnd_ne (by omega)
    have e66 : τ 66 = vw 1 σ := (es 66 (by omega)).trans e0
    have E1 := E _ es e66
    have e72 := es 72 (by omega)
    have e73 := es 73 (by omega)
    try subst hτ
    refine ⟨_, rfl, E1.mono (fun r' υ he => ?_)⟩
    have hN' := (congrFun e66 0).trans hN
    try rw [e66] at he
    try rw [e72] at he
    try rw [e73] at he
    rcases he with ⟨hn, -⟩ | ⟨s2, t2, m1, m2, hs2, ht2, hx2, hy2, hm1, hm14, hm2, hm24, ⟨-, rfl, rfl⟩ | ⟨g1, g2, -⟩ | ⟨g1, g2, -⟩⟩
    · skip
      exact absurd ⟨sh_i hx hs, sh_i hy ht⟩ hn
    · skip
      exact ⟨rfl, o_fq I.1 (by decide)⟩
    · skip
      obtain rfl := nI_u hx2 hx (by omega) (by omega)
      obtain rfl := nI_u hy2 hy (by omega) (by omega)
      exact (hb.elim (fun q => g1 ((I.bt hs).mp q)) (fun q => g2 ((I.bt ht).mp q))).elim
    · skip
      obtain rfl := nI_u hx2 hx (by omega) (by omega)
      obtain rfl := nI_u hy2 hy (by omega) (by omega)
      exact (hb.elim (fun q => g1 ((I.bt hs).mp q)) (fun q => g2 ((I.bt ht).mp q))).elim
  · have es : ∀ k, 65 ≤ k → τ k = σ k := fun k hk => by rw [hτ]; exact fnd_ne (by omega)
    have e66 : τ 66 = vw 1 σ := (es 66 (by omega)).trans e0
    have E1 := E _ es e66
    have e72 := es 72 (by omega)
    have e73 := es 73 (by omega)
    try subst hτ
    refine ⟨_, rfl, E1.mono (fun r' υ he => ?_)⟩
    have hN' := (congrFun e66 0).trans hN
    try rw [e66] at he
    try rw [e72] at he
    try rw [e73] at he
    rcases he with ⟨hn, -⟩ | ⟨s2, t2, m1, m2, hs2, ht2, hx2, hy2, hm1, hm14, hm2, hm24, ⟨g, -⟩ | ⟨-, -, -, rfl, rfl⟩ | ⟨-, -, g, -⟩⟩
    · skip
      exact absurd ⟨sh_i hx hs, sh_i hy ht⟩ hn
    · skip
      obtain rfl := nI_u hx2 hx (by omega) (by omega)
      obtain rfl := nI_u hy2 hy (by omega) (by omega)
      exact (g.elim (fun q => b1 ((I.bt hs).mpr q)) (fun q => b2 ((I.bt ht).mpr q))).elim
    · skip
      exact ⟨rfl, o_fq I.1 (by decide)⟩
    · skip
      obtain rfl := nI_u hx2 hx (by omega) (by omega)
      obtain rfl := nI_u hy2 hy (by omega) (by omega)
      exact absurd ((bt_e (I.1.2.2.2.1 _ hs).2.1 (I.1.2.2.2.1 _ ht).2.1 b1 b2).mpr g) bn
  · have es : ∀ k, 65 ≤ k → τ k = σ k := fun k hk => by rw [hτ]; exact fnd_ne (by omega)
    have e66 : τ 66 = vw 1 σ := (es 66 (by omega)).trans e0
    have E1 := E _ es e66
    have e72 := es 72 (by omega)
    have e73 := es 73 (by omega)
    try subst hτ
    refine ⟨_, rfl, E1.mono (fun r' υ he => ?_)⟩
    have hN' := (congrFun e66 0).trans hN
    try rw [e66] at he
    try rw [e72] at he
    try rw [e73] at he
    rcases he with ⟨hn, -⟩ | ⟨s2, t2, m1, m2, hs2, ht2, hx2, hy2, hm1, hm14, hm2, hm24, ⟨g, -⟩ | ⟨-, -, g, -⟩ | ⟨-, -, -, ⟨-, rfl, rfl⟩ | ⟨a, b, c, rfl, rfl, rfl, ha, hb, -⟩⟩⟩
    · skip
      exact absurd ⟨sh_i hx hs, sh_i hy ht⟩ hn
    · skip
      obtain rfl := nI_u hx2 hx (by omega) (by omega)
      obtain rfl := nI_u hy2 hy (by omega) (by omega)
      exact (g.elim (fun q => b1 ((I.bt hs).mpr q)) (fun q => b2 ((I.bt ht).mpr q))).elim
    · skip
      obtain rfl := nI_u hx2 hx (by omega) (by omega)
      obtain rfl := nI_u hy2 hy (by omega) (by omega)
      exact absurd ((bt_e (I.1.2.2.2.1 _ hs).2.1 (I.1.2.2.2.1 _ ht).2.1 b1 b2).mp bn) g
    · skip
      exact ⟨rfl, o_fq I.1 (by decide)⟩
    · skip
      obtain rfl := nI_u hx2 hx (by omega) (by omega)
      obtain rfl := nI_u hy2 hy (by omega) (by omega)
      obtain ⟨n1, hn1, hn12⟩ := I.szP _ hs
      obtain ⟨n2, hn2, hn22⟩ := I.szP _ ht
      obtain rfl := I.sz hs hn12 hn1 hm1 hm14
      obtain rfl := I.sz ht hn22 hn2 hm2 hm24
      exact absurd ⟨by rw [hn12]; exact has_in hn1 ha, by rw [hn22]; exact has_in hn2 hb⟩ hh
  · have es : ∀ k, 65 ≤ k → τ k = σ k := fun k hk => by rw [hτ]; exact cp2_ne (by omega)
    have e66 : τ 66 = vw 1 σ := (es 66 (by omega)).trans e0
    have E1 := E _ es e66
    have e72 := es 72 (by omega)
    have e73 := es 73 (by omega)
    try subst hτ
    refine ⟨_, rfl, E1.mono (fun r' υ he => ?_)⟩
    have hN' := (congrFun e66 0).trans hN
    try rw [e66] at he
    try rw [e72] at he
    try rw [e73] at he
    rcases he with ⟨hn, -⟩ | ⟨s2, t2, m1, m2, hs2, ht2, hx2, hy2, hm1, hm14, hm2, hm24, ⟨g, -⟩ | ⟨-, -, g, -⟩ | ⟨-, -, -, ⟨g, -⟩ | ⟨a, b, c, rfl, rfl, rfl, ha, hb, rfl, rfl⟩⟩⟩
    · skip
      exact absurd ⟨sh_i hx hs, sh_i hy ht⟩ hn
    · skip
      obtain rfl := nI_u hx2 hx (by omega) (by omega)
      obtain rfl := nI_u hy2 hy (by omega) (by omega)
      exact (g.elim (fun q => b1 ((I.bt hs).mpr q)) (fun q => b2 ((I.bt ht).mpr q))).elim
    · skip
      obtain rfl := nI_u hx2 hx (by omega) (by omega)
      obtain rfl := nI_u hy2 hy (by omega) (by omega)
      exact absurd ((bt_e (I.1.2.2.2.1 _ hs).2.1 (I.1.2.2.2.1 _ ht).2.1 b1 b2).mp bn) g
    · skip
      obtain rfl := nI_u hx2 hx (by omega) (by omega)
      obtain rfl := nI_u hy2 hy (by omega) (by omega)
      obtain ⟨n1, hn1, hn12⟩ := I.szP _ hs
      obtain ⟨n2, hn2, hn22⟩ := I.szP _ ht
      obtain rfl := I.sz hs hn12 hn1 hm1 hm14
      obtain rfl := I.sz ht hn22 hn2 hm2 hm24
      rw [hn12] at h1
      rw [hn22] at h2
      obtain ⟨a, c, hf, hc, hac⟩ := has_nI hn1 h1
      obtain ⟨b, c2, hf2, hc2, hbc⟩ := has_nI hn2 h2
      obtain rfl := nI_u hc2 hc (by omega) (by omega)
      exact absurd ⟨a, b, c2, hf, hf2, hc, hac, hbc⟩ g
    · skip
      obtain rfl := nI_u hx2 hx (by omega) (by omega)
      obtain rfl := nI_u hy2 hy (by omega) (by omega)
      rw [nI_clamp (by omega), nI_clamp (by omega), nI_clamp (by omega)]
      exact ⟨rfl, o_sh I.1 (fun k q => by rw [cpR_ne (by omega), cp2_ne (by omega)]) (sh_copy I.1 hs ht (by omega) (by omega))⟩

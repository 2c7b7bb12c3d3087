/-! bits counted: the loop and the sum -/
theorem nI_and (a b : Nat) : nI a &&& nI b = nI (a &&& b) := by
  apply Int32.toBitVec_inj.mp
  apply BitVec.eq_of_toNat_eq
  show (BitVec.ofNat 32 a &&& BitVec.ofNat 32 b).toNat = (BitVec.ofNat 32 (a &&& b)).toNat
  rw [BitVec.toNat_and, BitVec.toNat_ofNat, BitVec.toNat_ofNat, BitVec.toNat_ofNat, Nat.and_mod_two_pow]
theorem nI_or (a b : Nat) : nI a ||| nI b = nI (a ||| b) := by
  apply Int32.toBitVec_inj.mp
  apply BitVec.eq_of_toNat_eq
  show (BitVec.ofNat 32 a ||| BitVec.ofNat 32 b).toNat = (BitVec.ofNat 32 (a ||| b)).toNat
  rw [BitVec.toNat_or, BitVec.toNat_ofNat, BitVec.toNat_ofNat, BitVec.toNat_ofNat, Nat.or_mod_two_pow]
theorem nI_sb {a b : Nat} (h : b ≤ a) : nI a - nI b = nI (a - b) := by
  have e : nI a = nI (a - b) + nI b := by rw [nI_add]; congr 1; omega
  rw [e, Int32.add_sub_cancel]
theorem sh_1 : ∀ n, n < 16 → (1 : Int32) <<< (nI n &&& 31) = nI (2 ^ n) := by decide +kernel
theorem orS_nI (p : Nat → Prop) (dp : ∀ n, Decidable (p n)) : ∀ n, n ≤ 16 → ∃ v, v < 2 ^ n ∧ orS p dp n = nI v
  | 0, _ => ⟨0, by decide, rfl⟩
  | n + 1, h => by
    obtain ⟨v, hv, e⟩ := orS_nI p dp n (by omega)
    unfold orS
    have h2 : 2 ^ n < 2 ^ (n + 1) := Nat.pow_lt_pow_right (by omega) (by omega)
    split
    · exact ⟨v ||| 2 ^ n, Nat.or_lt_two_pow (by omega) h2, by rw [e, sh_1 n (by omega), nI_or]⟩
    · exact ⟨v, by omega, e⟩
def mnN : Nat → Nat → Nat
  | 0, _ => 0
  | n + 1, v => if v = 0 then 0 else mnN n (v &&& (v - 1)) + 1
def okB : Nat → Nat → Bool
  | 0, v => v == 0
  | n + 1, v => v == 0 || okB n (v &&& (v - 1))
def bcN (v : Nat) : Nat :=
  let a := v - ((v / 2) &&& 1431655765)
  let b := (a &&& 858993459) + ((a / 4) &&& 858993459)
  let c := (b + b / 16) &&& 252645135
  let d := c + c / 256
  let e := d + d / 65536
  e &&& 63
def cB : Nat → Nat → Nat
  | 0, _ => 0
  | n + 1, v => v % 2 + cB n (v / 2)
theorem cB_0 : ∀ n, cB n 0 = 0
  | 0 => rfl
  | n + 1 => by rw [cB]; simp [cB_0 n]
theorem and_odd (m : Nat) : (2 * m + 1) &&& (2 * m) = 2 * m := by
  have h := Nat.and_mod_two_pow (a := 2 * m + 1) (b := 2 * m) (n := 1)
  have g := Nat.and_div_two_pow (a := 2 * m + 1) (b := 2 * m) (n := 1)
  rw [show (2 * m + 1) % 2 ^ 1 = 1 by omega, show (2 * m) % 2 ^ 1 = 0 by omega, Nat.and_zero] at h
  rw [show (2 * m + 1) / 2 ^ 1 = m by omega, show (2 * m) / 2 ^ 1 = m by omega, Nat.and_self] at g
  omega
theorem and_evn (m : Nat) (h0 : 0 < m) : (2 * m) &&& (2 * m - 1) = 2 * (m &&& (m - 1)) := by
  have h := Nat.and_mod_two_pow (a := 2 * m) (b := 2 * m - 1) (n := 1)
  have g := Nat.and_div_two_pow (a := 2 * m) (b := 2 * m - 1) (n := 1)
  rw [show (2 * m) % 2 ^ 1 = 0 by omega, Nat.zero_and] at h
  rw [show (2 * m) / 2 ^ 1 = m by omega, show (2 * m - 1) / 2 ^ 1 = m - 1 by omega] at g
  omega
theorem cB_k : ∀ n v, v < 2 ^ n → 0 < v → cB n (v &&& (v - 1)) + 1 = cB n v
  | 0, v, h, h0 => by simp at h; omega
  | n + 1, v, h, h0 => by
    have e : 2 ^ (n + 1) = 2 ^ n + 2 ^ n := by rw [Nat.pow_succ]; omega
    rcases Nat.mod_two_eq_zero_or_one v with q | q
    · obtain ⟨m, rfl⟩ : ∃ m, v = 2 * m := ⟨v / 2, by omega⟩
      have ih := cB_k n m (by omega) (by omega)
      rw [and_evn m (by omega), cB, cB, show 2 * (m &&& (m - 1)) % 2 = 0 by omega, show 2 * (m &&& (m - 1)) / 2 = m &&& (m - 1) by omega, show 2 * m % 2 = 0 by omega, show 2 * m / 2 = m by omega]
      omega
    · obtain ⟨m, rfl⟩ : ∃ m, v = 2 * m + 1 := ⟨v / 2, by omega⟩
      rw [show 2 * m + 1 - 1 = 2 * m by omega, and_odd, cB, cB, show 2 * m % 2 = 0 by omega, show 2 * m / 2 = m by omega, show (2 * m + 1) % 2 = 1 by omega, show (2 * m + 1) / 2 = m by omega]
      omega
theorem cB_pos {n v : Nat} (h : v < 2 ^ n) (h0 : 0 < v) : 0 < cB n v := by have := cB_k n v h h0; omega
theorem mn_c (N : Nat) : ∀ n v, v < 2 ^ N → cB N v ≤ n → mnN n v = cB N v ∧ okB n v = true
  | 0, v, h, hc => by
    rcases Nat.eq_zero_or_pos v with q | q
    · subst q; exact ⟨by rw [cB_0]; rfl, rfl⟩
    · have := cB_pos h q; omega
  | n + 1, v, h, hc => by
    unfold mnN okB
    rcases Nat.eq_zero_or_pos v with q | q
    · subst q; exact ⟨by rw [if_pos rfl, cB_0], rfl⟩
    · have k := cB_k N v h q
      have l : v &&& (v - 1) ≤ v := Nat.and_le_left
      obtain ⟨i1, i2⟩ := mn_c N n (v &&& (v - 1)) (by omega) (by omega)
      exact ⟨by rw [if_neg (by omega), i1, k], by rw [i2]; simp⟩
theorem cB_le : ∀ n v, cB n v ≤ n
  | 0, v => Nat.le_refl _
  | n + 1, v => by rw [cB]; have := cB_le n (v / 2); omega
theorem cB_16 (v : Nat) : cB 16 v = cB 8 (v / 256) + cB 8 (v % 256) := by
  simp only [cB]
  omega
def b8a (x : Nat) : Nat := x - ((x / 2) &&& 85)
def b8b (x : Nat) : Nat := (b8a x &&& 51) + ((b8a x / 4) &&& 51)
def b8c (x : Nat) : Nat := (b8b x + b8b x / 16) % 16
theorem b8_d : ∀ x, x < 256 → b8c x = cB 8 x ∧ b8a x < 256 ∧ b8b x ≤ 68 ∧ b8b x / 16 ≤ 4 ∧ b8b x % 16 ≤ 4 ∧ ((x / 2) &&& 85) ≤ x := by decide +kernel
theorem b8_1 : ∀ p, p < 2 → ∀ q, q < 128 → (p * 128 + q) &&& 85 = q &&& 85 := by decide +kernel
theorem b8_2 : ∀ p, p < 4 → ∀ q, q < 64 → (p * 64 + q) &&& 51 = q &&& 51 := by decide +kernel
theorem and_256 (x M : Nat) : x &&& M = 256 * ((x / 256) &&& (M / 256)) + ((x % 256) &&& (M % 256)) := by
  have h := Nat.and_mod_two_pow (a := x) (b := M) (n := 8)
  have g := Nat.and_div_two_pow (a := x) (b := M) (n := 8)
  rw [show (2 : Nat) ^ 8 = 256 from rfl] at h g
  omega
theorem and_lo {x M : Nat} (h : x < 256) : x &&& M = x &&& (M % 256) := by
  rw [and_256 x M, show x / 256 = 0 by omega, Nat.zero_and, show x % 256 = x by omega]
  omega
theorem bc_sp {v : Nat} (h : v < 65536) : bcN v = cB 16 v := by
  obtain ⟨p, q, hp, hq, rfl⟩ : ∃ p q, p < 256 ∧ q < 256 ∧ v = 256 * p + q := ⟨v / 256, v % 256, by omega, by omega, by omega⟩
  obtain ⟨p1, p2, p3, p4, p5, p6⟩ := b8_d p hp
  obtain ⟨q1, q2, q3, q4, q5, q6⟩ := b8_d q hq
  have s1 : (256 * p + q) - (((256 * p + q) / 2) &&& 1431655765) = 256 * b8a p + b8a q := by
    rw [and_256, show (256 * p + q) / 2 / 256 = p / 2 by omega, show (256 * p + q) / 2 % 256 = p % 2 * 128 + q / 2 by omega, show 1431655765 % 256 = 85 from rfl, b8_1 (p % 2) (by omega) (q / 2) (by omega), and_lo (x := p / 2) (by omega), show 1431655765 / 256 % 256 = 85 from rfl]
    unfold b8a
    omega
  have s2 : ((256 * b8a p + b8a q) &&& 858993459) + (((256 * b8a p + b8a q) / 4) &&& 858993459) = 256 * b8b p + b8b q := by
    rw [and_256 (256 * b8a p + b8a q), show (256 * b8a p + b8a q) / 256 = b8a p by omega, show (256 * b8a p + b8a q) % 256 = b8a q by omega, and_256 ((256 * b8a p + b8a q) / 4), show (256 * b8a p + b8a q) / 4 / 256 = b8a p / 4 by omega, show (256 * b8a p + b8a q) / 4 % 256 = b8a p % 4 * 64 + b8a q / 4 by omega, show 858993459 % 256 = 51 from rfl, b8_2 (b8a p % 4) (by omega) (b8a q / 4) (by omega), and_lo (x := b8a p) (by omega), and_lo (x := b8a p / 4) (by omega), show 858993459 / 256 % 256 = 51 from rfl]
    unfold b8b
    omega
  have a15 : ∀ x, x < 256 → x &&& 15 = x % 16 := by decide +kernel
  have s3 : ((256 * b8b p + b8b q) + (256 * b8b p + b8b q) / 16) &&& 252645135 = 256 * b8c p + b8c q := by
    rw [and_256, show ((256 * b8b p + b8b q) + (256 * b8b p + b8b q) / 16) / 256 = b8b p + b8b p / 16 by omega, show ((256 * b8b p + b8b q) + (256 * b8b p + b8b q) / 16) % 256 = b8b q + b8b q / 16 + 16 * (b8b p % 16) by omega, show 252645135 % 256 = 15 from rfl, and_lo (x := b8b p + b8b p / 16) (by omega), show 252645135 / 256 % 256 = 15 from rfl, a15 _ (by omega), a15 _ (by omega)]
    unfold b8c
    omega
  unfold bcN
  simp only []
  rw [s1, s2, s3, cB_16, show (256 * p + q) / 256 = p by omega, show (256 * p + q) % 256 = q by omega, p1, q1]
  have hp8 := cB_le 8 p
  have hq8 := cB_le 8 q
  generalize cB 8 p = c at *
  generalize cB 8 q = d at *
  rw [show (256 * c + d) / 256 = c by omega, show (256 * c + d + c) / 65536 = 0 by omega, Nat.add_zero]
  have h6 := Nat.and_two_pow_sub_one_eq_mod (256 * c + d + c) 6
  rw [show 2 ^ 6 - 1 = 63 from rfl] at h6
  rw [h6]
  omega
theorem bq_v {v : Nat} (h : v < 65536) : okB 17 v = true ∧ mnN 17 v = bcN v ∧ mnN 17 v ≤ 16 := by
  have l := cB_le 16 v
  obtain ⟨m1, m2⟩ := mn_c 16 17 v h (by omega)
  exact ⟨m2, by rw [m1, bc_sp h], by rw [m1]; exact l⟩

set_option maxHeartbeats 4000000 in
set_option maxRecDepth 20000 in
theorem e_many (l : Launch) (G : GG) (T : List Sh) (σ : Sg) {v : Nat} {x : Int32} (hx : x = nI v) (hv : v < 65536) : CtI l G mX8_many 0 T [.int x] σ (nI (mnN 17 v)) σ := by
  subst hx
  have hok := (bq_v hv).1
  refine ct_intro (by decide) (Nat.le_of_ble_eq_true rfl) (fun X B R => ?_)
  show V X G T σ [some (.int (nI v)), none, none] [] 0
  refine r_iconst (pc := 0) (x := 0) B dX8_many_0 (by decide) ?_
  refine r_istore_1 (pc := 1) B dX8_many_1 (by decide) rfl ?_
  refine r_iload_n (pc := 2) B dX8_many_2 rfl ?_
  refine r_istore_2 (pc := 3) B dX8_many_3 (by decide) rfl ?_
  have hL4 : ∀ (n a c : Nat), okB n a = true → a < 65536 → c + mnN n a = mnN 17 v → V X G T σ [some (.int (nI v)), some (.int (nI c)), some (.int (nI a))] [] 4 := by
    intro n
    induction n with
    | zero =>
      intro a c ho ha hc
      have ea : a = 0 := by unfold okB at ho; exact beq_iff_eq.mp ho
      subst ea
      refine r_iload_n (pc := 4) B dX8_many_4 rfl ?_
      refine r_if_eq (pc := 5) B 20 dX8_many_5 (by decide) (fun h5 => ?_) (fun h5 => ?_)
      · skip
        refine r_iload_n (pc := 20) B dX8_many_20 rfl ?_
        exact r_iret (pc := 21) B R dX8_many_21 ⟨by rw [← hc]; rfl, rfl⟩
      · skip
        exact absurd rfl h5
    | succ n ih =>
      intro a c ho ha hc
      refine r_iload_n (pc := 4) B dX8_many_4 rfl ?_
      refine r_if_eq (pc := 5) B 20 dX8_many_5 (by decide) (fun h5 => ?_) (fun h5 => ?_)
      · skip
        have he : a = 0 := (nI_eq (b := 0) (by omega) (by omega)).mp h5
        refine r_iload_n (pc := 20) B dX8_many_20 rfl ?_
        exact r_iret (pc := 21) B R dX8_many_21 ⟨by rw [← hc, he]; simp [mnN], rfl⟩
      · skip
        have hne : ¬ a = 0 := fun q => h5 (by rw [q]; rfl)
        refine r_iinc_1 (pc := 8) (y := _ + 1) B dX8_many_8 rfl (by decide) rfl ?_
        rw [nI_1]
        refine r_iload_n (pc := 11) B dX8_many_11 rfl ?_
        refine r_iload_n (pc := 12) B dX8_many_12 rfl ?_
        refine r_iconst (pc := 13) (x := 1) B dX8_many_13 (by decide) ?_
        refine r_isub (pc := 14) B dX8_many_14 ?_
        refine r_iand (pc := 15) B dX8_many_15 ?_
        rw [show nI a - 1 = nI (a - 1) from nI_sb (b := 1) (by omega), nI_and]
        refine r_istore_2 (pc := 16) B dX8_many_16 (by decide) rfl ?_
        refine r_goto (pc := 17) B 4 dX8_many_17 (by decide) ?_
        have hl : a &&& (a - 1) ≤ a := Nat.and_le_left
        exact ih (a &&& (a - 1)) (c + 1) (by unfold okB at ho; rw [Bool.or_eq_true] at ho; exact ho.elim (fun q => absurd (beq_iff_eq.mp q) hne) id) (by omega) (by rw [mnN, if_neg hne] at hc; omega)
  exact hL4 17 v 0 hok hv (by omega)
theorem bc_nI {v : Nat} (h : v < 65536) : bcF (nI v) = nI (bcN v) := by
  unfold bcF bcN
  simp only []
  have s1 : ∀ n, n < 2 ^ 32 → ((nI n).toUInt32 >>> ((1 : Int32).toUInt32 &&& Int32.toUInt32 31)).toInt32 = nI (n / 2) := fun n hn => pk_ushrN hn 1 1 (by decide)
  have s2 : ∀ n, n < 2 ^ 32 → ((nI n).toUInt32 >>> ((2 : Int32).toUInt32 &&& Int32.toUInt32 31)).toInt32 = nI (n / 4) := fun n hn => pk_ushrN hn 2 2 (by decide)
  have s4 : ∀ n, n < 2 ^ 32 → ((nI n).toUInt32 >>> ((4 : Int32).toUInt32 &&& Int32.toUInt32 31)).toInt32 = nI (n / 16) := fun n hn => pk_ushrN hn 4 4 (by decide)
  have s8 : ∀ n, n < 2 ^ 32 → ((nI n).toUInt32 >>> ((8 : Int32).toUInt32 &&& Int32.toUInt32 31)).toInt32 = nI (n / 256) := fun n hn => pk_ushrN hn 8 8 (by decide)
  have s16 : ∀ n, n < 2 ^ 32 → ((nI n).toUInt32 >>> ((16 : Int32).toUInt32 &&& Int32.toUInt32 31)).toInt32 = nI (n / 65536) := fun n hn => pk_ushrN hn 16 16 (by decide)
  have l1 : (v / 2) &&& 1431655765 ≤ v / 2 := Nat.and_le_left
  rw [s1 v (by omega), show (1431655765 : Int32) = nI 1431655765 from rfl, nI_and, nI_sb (by omega)]
  generalize ha : v - ((v / 2) &&& 1431655765) = a
  have ha2 : a < 65536 := by omega
  rw [s2 a (by omega), show (858993459 : Int32) = nI 858993459 from rfl, nI_and, nI_and, nI_add]
  have l2 : a &&& 858993459 ≤ a := Nat.and_le_left
  have l3 : (a / 4) &&& 858993459 ≤ a / 4 := Nat.and_le_left
  generalize hb : (a &&& 858993459) + ((a / 4) &&& 858993459) = b
  have hb2 : b < 131072 := by omega
  rw [s4 b (by omega), nI_add, show (252645135 : Int32) = nI 252645135 from rfl, nI_and]
  have l4 : (b + b / 16) &&& 252645135 ≤ b + b / 16 := Nat.and_le_left
  generalize hc : (b + b / 16) &&& 252645135 = c
  have hc2 : c < 262144 := by omega
  rw [s8 c (by omega), nI_add]
  generalize hd : c + c / 256 = d
  have hd2 : d < 524288 := by omega
  rw [s16 d (by omega), nI_add, show (63 : Int32) = nI 63 from rfl, nI_and]
theorem mn_bc {v : Nat} (h : v < 65536) : nI (mnN 17 v) = bcF (nI v) := by rw [bc_nI h, (bq_v h).2.1]
def ctR (σ : Sg) (N k : Nat) : Int32 := if k = 0 then σ 66 1 else if k = 1 then σ 66 0 else if k = 2 then bcF (orS (fun u => σ 66 (53 + 8 * u + 1) = 16) (fun _ => inferInstance) N) else if k = 3 then sumS (fun u => σ 66 (53 + 8 * u + 7)) N else if k = 4 then sumS (fun u => σ 66 (53 + 8 * u + 4)) N else if k = 5 then σ 65 7 else if k = 6 then σ 66 2 else cnS (fun s => σ 66 (117 + s)) 10
theorem wi_cs7 {a : Int32} (h : withinP a 7) : a = 0 ∨ a = 1 ∨ a = 2 ∨ a = 3 ∨ a = 4 ∨ a = 5 ∨ a = 6 ∨ a = 7 := by
  obtain ⟨k, hk, rfl⟩ := wi_nI (g := 7) (by decide) h
  rcases (show k = 0 ∨ k = 1 ∨ k = 2 ∨ k = 3 ∨ k = 4 ∨ k = 5 ∨ k = 6 ∨ k = 7 by omega) with rfl | rfl | rfl | rfl | rfl | rfl | rfl | rfl <;> decide

set_option maxHeartbeats 4000000 in
set_option maxRecDepth 20000 in
theorem e_count (l : Launch) (G : GG) (σ : Sg) {N : Nat} (hN8 : N ≤ 8) (hN : σ 66 0 = nI N) (hS : spP (σ 66) N) (a : Int32) : Ct l G mX8_count 3 shT [.ref (ad G 65), .int a] σ (fun r τ => (¬ withinP a 7 ∧ gQ σ 0 r τ) ∨ ∃ k, k < 8 ∧ a = nI k ∧ τ = σ ∧ r = some (.int (ctR σ N k))) := by
  refine ct_intro (by decide) (Nat.le_of_ble_eq_true rfl) (fun X B R => ?_)
  show V X G shT σ [some (.ref (ad G 65)), some (.int a), none, none] [] 0
  refine r_iconst (pc := 0) (x := 0) B dX8_count_0 (by decide) ?_
  refine r_istore_2 (pc := 1) B dX8_count_1 (by decide) rfl ?_
  refine r_iload_n (pc := 2) B dX8_count_2 rfl ?_
  refine r_tsC (pc := 3) B 0 48 dX8_count_3 (by decide) (by decide) rfl (by decide) (fun h3_0 => ?_) (fun h3_0 => ?_)
  · skip
    refine r_aload_n (pc := 48) B dX8_count_48 rfl ?_
    refine r_getr (pc := 49) B FX8_7 rfl rfl dX8_count_49 ?_
    refine r_iconst (pc := 52) (x := 1) B dX8_count_52 (by decide) ?_
    refine r_iald (pc := 53) B rfl (ix_of 1 rfl) dX8_count_53 ?_
    exact r_iret (pc := 54) B R dX8_count_54 (Or.inr ⟨0, by omega, h3_0, rfl, rfl⟩)
  refine r_tsC (pc := 3) B 1 55 dX8_count_3 (by decide) (by decide) rfl (by decide) (fun h3_1 => ?_) (fun h3_1 => ?_)
  · skip
    refine r_aload_n (pc := 55) B dX8_count_55 rfl ?_
    refine r_getr (pc := 56) B FX8_7 rfl rfl dX8_count_56 ?_
    refine r_iconst (pc := 59) (x := 0) B dX8_count_59 (by decide) ?_
    refine r_iald (pc := 60) B rfl (ix_of 0 rfl) dX8_count_60 ?_
    exact r_iret (pc := 61) B R dX8_count_61 (Or.inr ⟨1, by omega, h3_1, rfl, rfl⟩)
  refine r_tsC (pc := 3) B 2 62 dX8_count_3 (by decide) (by decide) rfl (by decide) (fun h3_2 => ?_) (fun h3_2 => ?_)
  · skip
    refine r_aload_n (pc := 62) B dX8_count_62 rfl ?_
    refine r_cVi0 (pc := 63) B KX8_126 (e_homes l G _ hN8 hN) rfl rfl (by decide) (Nat.le_of_ble_eq_true rfl) dX8_count_63 ?_
    obtain ⟨v, hv1, hv2⟩ := orS_nI (fun u => σ 66 (53 + 8 * u + 1) = 16) (fun _ => inferInstance) N (by omega)
    have hv16 : v < 65536 := Nat.lt_of_lt_of_le hv1 (show 2 ^ N ≤ 2 ^ 16 from Nat.pow_le_pow_right (by omega) (by omega))
    refine r_cSi1 (pc := 66) B KX8_204 (e_many l G _ _ hv2 hv16) (by decide) (Nat.le_of_ble_eq_true rfl) dX8_count_66 ?_
    exact r_iret (pc := 69) B R dX8_count_69 (Or.inr ⟨2, by omega, h3_2, rfl, by rw [mn_bc hv16, ← hv2]; rfl⟩)
  refine r_tsC (pc := 3) B 3 70 dX8_count_3 (by decide) (by decide) rfl (by decide) (fun h3_3 => ?_) (fun h3_3 => ?_)
  · skip
    refine r_aload_n (pc := 70) B dX8_count_70 rfl ?_
    refine r_bipush (pc := 71) (x := 7) B dX8_count_71 (by decide) ?_
    refine r_cVi1 (pc := 73) B KX8_129 (e_sumOf l G _ hN8 hN (f := 7) rfl (by decide)) rfl rfl (by decide) (Nat.le_of_ble_eq_true rfl) dX8_count_73 ?_
    exact r_iret (pc := 76) B R dX8_count_76 (Or.inr ⟨3, by omega, h3_3, rfl, rfl⟩)
  refine r_tsC (pc := 3) B 4 77 dX8_count_3 (by decide) (by decide) rfl (by decide) (fun h3_4 => ?_) (fun h3_4 => ?_)
  · skip
    refine r_aload_n (pc := 77) B dX8_count_77 rfl ?_
    refine r_iconst (pc := 78) (x := 4) B dX8_count_78 (by decide) ?_
    refine r_cVi1 (pc := 79) B KX8_129 (e_sumOf l G _ hN8 hN (f := 4) rfl (by decide)) rfl rfl (by decide) (Nat.le_of_ble_eq_true rfl) dX8_count_79 ?_
    exact r_iret (pc := 82) B R dX8_count_82 (Or.inr ⟨4, by omega, h3_4, rfl, rfl⟩)
  refine r_tsC (pc := 3) B 5 83 dX8_count_3 (by decide) (by decide) rfl (by decide) (fun h3_5 => ?_) (fun h3_5 => ?_)
  · skip
    refine r_aload_n (pc := 83) B dX8_count_83 rfl ?_
    refine r_geti (pc := 84) B FX8_209 rfl rfl dX8_count_84 ?_
    exact r_iret (pc := 87) B R dX8_count_87 (Or.inr ⟨5, by omega, h3_5, rfl, rfl⟩)
  refine r_tsC (pc := 3) B 6 88 dX8_count_3 (by decide) (by decide) rfl (by decide) (fun h3_6 => ?_) (fun h3_6 => ?_)
  · skip
    refine r_aload_n (pc := 88) B dX8_count_88 rfl ?_
    refine r_getr (pc := 89) B FX8_7 rfl rfl dX8_count_89 ?_
    refine r_iconst (pc := 92) (x := 2) B dX8_count_92 (by decide) ?_
    refine r_iald (pc := 93) B rfl (ix_of 2 rfl) dX8_count_93 ?_
    exact r_iret (pc := 94) B R dX8_count_94 (Or.inr ⟨6, by omega, h3_6, rfl, rfl⟩)
  refine r_tsC (pc := 3) B 7 95 dX8_count_3 (by decide) (by decide) rfl (by decide) (fun h3_7 => ?_) (fun h3_7 => ?_)
  · skip
    refine r_iconst (pc := 95) (x := 0) B dX8_count_95 (by decide) ?_
    refine r_istore_3 (pc := 96) B dX8_count_96 (by decide) rfl ?_
    have hL97 : ∀ (n i : Nat) (q : Int32), i ≤ 10 → 11 ≤ i + n → q = cnS (fun s => σ 66 (117 + s)) i → V X G shT σ [some (.ref (ad G 65)), some (.int a), some (.int q), some (.int (nI i))] [] 97 := by
      intro n
      induction n with
      | zero => intro i q h1 h2; omega
      | succ n ih =>
        intro i q hi hn hq
        refine r_iload_n (pc := 97) B dX8_count_97 rfl ?_
        refine r_bipush (pc := 98) (x := 10) B dX8_count_98 (by decide) ?_
        refine r_icmp_ge (pc := 100) B 129 dX8_count_100 (by decide) (fun h100 => ?_) (fun h100 => ?_)
        · skip
          have eN : i = 10 := by have := nI_ge_of (n := 10) (by omega) (by omega) h100; omega
          subst eN
          refine r_iload_n (pc := 129) B dX8_count_129 rfl ?_
          exact r_iret (pc := 130) B R dX8_count_130 (Or.inr ⟨7, by omega, h3_7, rfl, by rw [hq]; rfl⟩)
        · skip
          have hiN : i < 10 := nI_lt_of (n := 10) (by omega) (by omega) h100
          refine r_iload_n (pc := 103) B dX8_count_103 rfl ?_
          refine r_aload_n (pc := 104) B dX8_count_104 rfl ?_
          refine r_getr (pc := 105) B FX8_7 rfl rfl dX8_count_105 ?_
          refine r_bipush (pc := 108) (x := 117) B dX8_count_108 (by decide) ?_
          refine r_iload_n (pc := 110) B dX8_count_110 rfl ?_
          refine r_iadd (pc := 111) B dX8_count_111 ?_
          refine r_iald (pc := 112) B rfl (ix_eq (pl_nI (n := 117) rfl) (by omega) (by decide)) dX8_count_112 ?_
          refine r_if_ge (pc := 113) B 120 dX8_count_113 (by decide) (fun h113 => ?_) (fun h113 => ?_)
          · skip
            refine r_iconst (pc := 120) (x := 1) B dX8_count_120 (by decide) ?_
            refine r_iadd (pc := 121) B dX8_count_121 ?_
            refine r_istore_2 (pc := 122) B dX8_count_122 (by decide) rfl ?_
            refine r_iinc_3 (pc := 123) (y := _ + 1) B dX8_count_123 rfl (by decide) rfl ?_
            refine r_goto (pc := 126) B 97 dX8_count_126 (by decide) ?_
            rw [nI_1]
            exact ih (i + 1) _ hiN (by omega) (by rw [cnS, hq]; first | (have e1 : σ 66 (117 + i) = -1 := (hS i hiN).elim id (fun ⟨u, u1, u2⟩ => absurd (by rw [u2]; exact Int32.not_lt.mp (nI_pos (by omega))) h113); rw [if_pos e1]; simp) | (rw [if_neg (fun z => absurd h113 (by rw [z]; decide))]))
          · skip
            refine r_iconst (pc := 116) (x := 0) B dX8_count_116 (by decide) ?_
            refine r_goto (pc := 117) B 121 dX8_count_117 (by decide) ?_
            refine r_iadd (pc := 121) B dX8_count_121 ?_
            refine r_istore_2 (pc := 122) B dX8_count_122 (by decide) rfl ?_
            refine r_iinc_3 (pc := 123) (y := _ + 1) B dX8_count_123 rfl (by decide) rfl ?_
            refine r_goto (pc := 126) B 97 dX8_count_126 (by decide) ?_
            rw [nI_1]
            exact ih (i + 1) _ hiN (by omega) (by rw [cnS, hq]; first | (have e1 : σ 66 (117 + i) = -1 := (hS i hiN).elim id (fun ⟨u, u1, u2⟩ => absurd (by rw [u2]; exact Int32.not_lt.mp (nI_pos (by omega))) h113); rw [if_pos e1]; simp) | (rw [if_neg (fun z => absurd h113 (by rw [z]; decide))]))
    exact hL97 11 0 0 (by omega) (by omega) rfl
  refine r_tsD (pc := 3) B 131 dX8_count_3 (by have e0 := ts_in (c := 0) h3_0 rfl; have e1 := ts_in (c := 1) h3_1 rfl; have e2 := ts_in (c := 2) h3_2 rfl; have e3 := ts_in (c := 3) h3_3 rfl; have e4 := ts_in (c := 4) h3_4 rfl; have e5 := ts_in (c := 5) h3_5 rfl; have e6 := ts_in (c := 6) h3_6 rfl; have e7 := ts_in (c := 7) h3_7 rfl; omega) (by decide) ?_
  refine r_aload_n (pc := 131) B dX8_count_131 rfl ?_
  refine r_ldc (pc := 132) B q836 dX8_count_132 ?_
  refine r_cVi1 (pc := 134) B KX8_39 (e_finds l G _ (j := 0) rfl (by decide)) rfl rfl (by decide) (Nat.le_of_ble_eq_true rfl) dX8_count_134 ?_
  exact r_iret (pc := 137) B R dX8_count_137 (Or.inl ⟨fun q => by rcases wi_cs7 q with q | q | q | q | q | q | q | q <;> first | exact h3_0 q | exact h3_1 q | exact h3_2 q | exact h3_3 q | exact h3_4 q | exact h3_5 q | exact h3_6 q | exact h3_7 q, rfl, rfl⟩)

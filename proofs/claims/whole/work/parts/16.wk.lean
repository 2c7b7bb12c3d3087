/-! the walk of one umbrella: TICK, and its eight numbers -/
abbrev WS : Type := Int32 × (Nat → Int32)
def goA (fr sn ro : Nat → Int32) (rain g t : Int32) (a : Nat → Int32) : Nat → Int32 := if stepP (a 1) then goU fr sn ro rain g t a (a 1).toNatClampNeg else a
/-- one TICK on the walk's own street -/
def gA (σ : Sg) (s : WS) : WS := (mn 99999 (s.1 + 1), goA (σ 48) (σ 49) (σ 50) (σ 47 3) (σ 47 4) s.1 s.2)
abbrev kgP (σ : Sg) (s : WS) : Prop := stepP (s.2 1) ∧ goG (σ 48) (σ 49) (σ 50) (σ 47 4) s.1 s.2 (s.2 1).toNatClampNeg
/-- the walk stands at s; all else is as in σ -/
def isWk (σ τ : Sg) (s : WS) : Prop := τ 47 5 = s.1 ∧ (∀ i, i < 8 → τ 51 i = s.2 i) ∧ (∀ k, k ≠ 47 → k ≠ 51 → τ k = σ k) ∧ ∀ i, i ≠ 5 → τ 47 i = σ 47 i
theorem isWk.rf (σ : Sg) : isWk σ σ (σ 47 5, σ 51) := ⟨rfl, fun _ _ => rfl, fun _ _ _ => rfl, fun _ _ => rfl⟩
theorem goG_iff {fr sn ro : Nat → Int32} {g t : Int32} {u u' : Nat → Int32} {j : Nat} (e5 : u 5 = u' 5) (eh : hdG fr sn ro g t u j = hdG fr sn ro g t u' j) (ez : zG fr sn ro g t u j = zG fr sn ro g t u' j) : goG fr sn ro g t u j ↔ goG fr sn ro g t u' j := by unfold goG; rw [e5, eh, ez]
theorem c_walkK (l : Launch) (G : GG) {σ τ : Sg} {s : WS} (h : isWk σ τ s) : CpI l G mX4_walkOn 2 shT [.ref (ad G 51), .ref (ad G 47)] τ (bI (kgP σ s)) (fun ρ => isWk σ ρ (s.1, goA (σ 48) (σ 49) (σ 50) (σ 47 3) (σ 47 4) s.1 s.2)) := by
  have hU : isU 51 := Or.inr (Or.inr (Or.inr rfl))
  have hS : isS 47 := Or.inr (Or.inr (Or.inr rfl))
  have e1 := h.2.1 1 (by omega)
  by_cases hs : stepP (τ 51 1)
  · obtain ⟨j, hj, ha⟩ := stepP_nI hs
    have hn : (s.2 1).toNatClampNeg = j := by rw [← e1, ha]; exact nI_clamp (by omega)
    have hst : stepP (s.2 1) := by rw [← e1]; exact hs
    have c := goU_congr (fr := σ 48) (sn := σ 49) (ro := σ 50) (fr' := σ 48) (sn' := σ 49) (ro' := σ 50) (rain := σ 47 3) (g := σ 47 4) (t := s.1) (u := τ 51) (u' := s.2) (j := j) rfl rfl rfl rfl h.2.1
    have e48 := h.2.2.1 48 (by decide) (by decide)
    have e49 := h.2.2.1 49 (by decide) (by decide)
    have e50 := h.2.2.1 50 (by decide) (by decide)
    have e3 := h.2.2.2 3 (by decide)
    have e4 := h.2.2.2 4 (by decide)
    refine (c_walkOn l G τ hU hS hj ha).mono (fun r ρ q => ⟨?_, ?_⟩)
    · rw [q.1]
      refine congrArg (fun z => some (Value.int z)) (gsP_iff ?_)
      show goesP (τ 51 5) (hdG (τ 48) (τ 49) (τ 50) (τ 47 4) (τ 47 5) (τ 51) j) (zG (τ 48) (τ 49) (τ 50) (τ 47 4) (τ 47 5) (τ 51) j) ↔ _
      rw [e48, e49, e50, e4, h.1, c.2.1, c.2.2, h.2.1 5 (by omega)]
      unfold kgP goG
      rw [hn]
      exact ⟨fun q => ⟨hst, q⟩, fun q => q.2⟩
    · rw [q.2]
      refine ⟨?_, fun i hi => ?_, fun k h1 h2 => ?_, fun i hi => ?_⟩
      · simp only [wrU]; rw [if_neg (by omega)]; exact h.1
      · simp only [wrU]
        rw [if_pos ⟨trivial, hi⟩]
        show goU (τ 48) (τ 49) (τ 50) (τ 47 3) (τ 47 4) (τ 47 5) (τ 51) j i = goA _ _ _ _ _ _ _ i
        rw [e48, e49, e50, e3, e4, h.1, c.1 i hi, goA, if_pos hst, hn]
      · rw [← h.2.2.1 k h1 h2]; funext i; simp only [wrU]; rw [if_neg (by omega)]
      · rw [← h.2.2.2 i hi]; simp only [wrU]; rw [if_neg (by omega)]
  · have hst : ¬ stepP (s.2 1) := by rw [← e1]; exact hs
    refine (c_walkOnH l G τ hU hS hs).mono (fun r ρ q => ⟨?_, ?_⟩)
    · rw [q.1, ← bI_f (p := kgP σ s) (fun z => hst z.1)]
    · rw [q.2, goA, if_neg hst]; exact h
theorem wk_tick {σ τ : Sg} {s : WS} (h : isWk σ τ s) (d : Int32) : isWk σ (st2 τ 47 5 (mn 99999 (τ 47 5 + d))) (mn 99999 (s.1 + d), s.2) :=
  ⟨by rw [st2_at, h.1], fun i hi => by rw [st2_cl _ _ _ _ (by decide)]; exact h.2.1 i hi, fun k h1 h2 => by rw [st2_cl _ _ _ _ h1]; exact h.2.2.1 k h1 h2, fun i hi => by rw [st2_fd _ _ _ _ hi]; exact h.2.2.2 i hi⟩
/-- the fewest steps of F behind which it is HOME, at most n; and where it is then -/
def hmN (F : WS → WS) : Nat → WS → Nat × WS
  | 0, s => (0, s)
  | n + 1, s => if s.2 1 = 16 then (0, s) else ((hmN F n (F s)).1 + 1, (hmN F n (F s)).2)
def hmR (q : Nat × WS) : Int32 := if q.2.2 1 = 16 then nI q.1 else -1
/-- the fewest, from 1 on, behind which TURNED is above t -/
def tlN (F : WS → WS) (t : Int32) : Nat → WS → Option Nat
  | 0, _ => none
  | n + 1, s => if (F s).2 6 ≤ t then (tlN F t n (F s)).map (· + 1) else some 1
def tlR (q : Option Nat) : Int32 := match q with
  | some n => nI n
  | none => -1
/-- it comes HOME within n, TURNED being t all the way -/
def chN (F : WS → WS) (t : Int32) : Nat → WS → Prop
  | 0, s => s.2 1 = 16
  | n + 1, s => s.2 1 = 16 ∨ ((F s).2 6 = t ∧ chN F t n (F s))
/-- it is where f tells, from i on, n times -/
def flN (F : WS → WS) (f : Nat → Int32) : Nat → Nat → WS → Prop
  | 0, _, _ => True
  | n + 1, i, s => (f i = -1 ∨ f i = s.2 1) ∧ flN F f n (i + 1) (F s)

set_option maxHeartbeats 4000000 in
set_option maxRecDepth 20000 in
theorem c_goOn (l : Launch) (G : GG) {σ τ : Sg} {s : WS} (h : isWk σ τ s) : CpV l G mX5_goOn 3 shT [.ref (ad G 46)] τ (fun ρ => isWk σ ρ (gA σ s)) := by
  refine ct_intro (by decide) (Nat.le_of_ble_eq_true rfl) (fun X B R => ?_)
  show V X G shT τ [some (.ref (ad G 46))] [] 0
  refine r_aload_n (pc := 0) B dX5_goOn_0 rfl ?_
  refine r_getr (pc := 1) B FX5_21 rfl rfl dX5_goOn_1 ?_
  refine r_aload_n (pc := 4) B dX5_goOn_4 rfl ?_
  refine r_getr (pc := 5) B FX5_12 rfl rfl dX5_goOn_5 ?_
  refine r_cVpi1 (pc := 8) B KX5_48 (c_walkK l G h) rfl rfl (by decide) (Nat.le_of_ble_eq_true rfl) dX5_goOn_8 (fun ρ hw => ?_)
  refine r_pop (pc := 11) B rfl dX5_goOn_11 ?_
  refine r_aload_n (pc := 12) B dX5_goOn_12 rfl ?_
  refine r_getr (pc := 13) B FX5_12 rfl rfl dX5_goOn_13 ?_
  refine r_iconst (pc := 16) (x := 1) B dX5_goOn_16 (by decide) ?_
  refine r_cVv1 (pc := 17) B KX5_40 (c_nextTick l G _ (Or.inr (Or.inr (Or.inr rfl))) _) rfl rfl (by decide) (Nat.le_of_ble_eq_true rfl) dX5_goOn_17 ?_
  exact r_vret (pc := 20) B R dX5_goOn_20 ⟨rfl, wk_tick hw _⟩
set_option maxHeartbeats 4000000 in
set_option maxRecDepth 20000 in
theorem c_ticksHome (l : Launch) (G : GG) {σ τ : Sg} {s : WS} (h : isWk σ τ s) : CpI l G mX5_ticksHome 4 shT [.ref (ad G 46)] τ (hmR (hmN (gA σ) 200 s)) (fun ρ => isWk σ ρ (hmN (gA σ) 200 s).2) := by
  refine ct_intro (by decide) (Nat.le_of_ble_eq_true rfl) (fun X B R => ?_)
  show V X G shT τ [some (.ref (ad G 46)), none] [] 0
  refine r_iconst (pc := 0) (x := 0) B dX5_ticksHome_0 (by decide) ?_
  refine r_istore_1 (pc := 1) B dX5_ticksHome_1 (by decide) rfl ?_
  have hL2 : ∀ (n i : Nat) (ρ : Sg) (x : WS), i + n = 200 → hmN (gA σ) 200 s = (i + (hmN (gA σ) n x).1, (hmN (gA σ) n x).2) → isWk σ ρ x → V X G shT ρ [some (.ref (ad G 46)), some (.int (nI i))] [] 2 := by
    intro n
    induction n with
    | zero =>
      intro i ρ x hi hq hw
      have ei : i = 200 := by omega
      subst ei
      have e1 := hw.2.1 1 (by omega)
      refine r_iload_n (pc := 2) B dX5_ticksHome_2 rfl ?_
      refine r_sipush (pc := 3) (x := 200) B dX5_ticksHome_3 (by decide) ?_
      refine r_icmp_ge (pc := 6) B 33 dX5_ticksHome_6 (by decide) (fun h6 => ?_) (fun h6 => ?_)
      · skip
        refine r_aload_n (pc := 33) B dX5_ticksHome_33 rfl ?_
        refine r_getr (pc := 34) B FX5_21 rfl rfl dX5_ticksHome_34 ?_
        refine r_geti (pc := 37) B FX5_52 rfl rfl dX5_ticksHome_37 ?_
        rw [e1]
        refine r_bipush (pc := 40) (x := 16) B dX5_ticksHome_40 (by decide) ?_
        refine r_icmp_ne (pc := 42) B 51 dX5_ticksHome_42 (by decide) (fun h42 => ?_) (fun h42 => ?_)
        · skip
          refine r_iconst (pc := 51) (x := (-1)) B dX5_ticksHome_51 (by decide) ?_
          exact r_iret (pc := 52) B R dX5_ticksHome_52 ⟨by rw [hq, hmN]; simp [hmR, h42, nI], by rw [hq]; exact hw⟩
        · skip
          refine r_sipush (pc := 45) (x := 200) B dX5_ticksHome_45 (by decide) ?_
          refine r_goto (pc := 48) B 52 dX5_ticksHome_48 (by decide) ?_
          exact r_iret (pc := 52) B R dX5_ticksHome_52 ⟨by rw [hq, hmN]; simp [hmR, h42, nI], by rw [hq]; exact hw⟩
      · skip
        exact absurd h6 (by decide)
    | succ n ih =>
      intro i ρ x hi hq hw
      have e1 := hw.2.1 1 (by omega)
      refine r_iload_n (pc := 2) B dX5_ticksHome_2 rfl ?_
      refine r_sipush (pc := 3) (x := 200) B dX5_ticksHome_3 (by decide) ?_
      refine r_icmp_ge (pc := 6) B 33 dX5_ticksHome_6 (by decide) (fun h6 => ?_) (fun h6 => ?_)
      · skip
        exact absurd (nI_ge_of (n := 200) (by omega) (by omega) h6) (by omega)
      · skip
        refine r_aload_n (pc := 9) B dX5_ticksHome_9 rfl ?_
        refine r_getr (pc := 10) B FX5_21 rfl rfl dX5_ticksHome_10 ?_
        refine r_geti (pc := 13) B FX5_52 rfl rfl dX5_ticksHome_13 ?_
        rw [e1]
        refine r_bipush (pc := 16) (x := 16) B dX5_ticksHome_16 (by decide) ?_
        refine r_icmp_ne (pc := 18) B 23 dX5_ticksHome_18 (by decide) (fun h18 => ?_) (fun h18 => ?_)
        · skip
          refine r_aload_n (pc := 23) B dX5_ticksHome_23 rfl ?_
          refine r_cVpv0 (pc := 24) B KX5_56 (c_goOn l G hw) rfl rfl (by decide) (Nat.le_of_ble_eq_true rfl) dX5_ticksHome_24 (fun ρ2 hw2 => ?_)
          refine r_iinc_1 (pc := 27) (y := _ + 1) B dX5_ticksHome_27 rfl (by decide) rfl ?_
          refine r_goto (pc := 30) B 2 dX5_ticksHome_30 (by decide) ?_
          rw [nI_1]
          refine ih (i + 1) _ _ (by omega) ?_ hw2
          rw [hq, hmN, if_neg h18, Nat.add_assoc, Nat.add_comm 1]
        · skip
          refine r_iload_n (pc := 21) B dX5_ticksHome_21 rfl ?_
          exact r_iret (pc := 22) B R dX5_ticksHome_22 ⟨by rw [hq, hmN, if_pos h18, hmR, if_pos h18]; rfl, by rw [hq, hmN, if_pos h18]; exact hw⟩
  exact hL2 200 0 τ s (by omega) (by rw [Nat.zero_add]) h
set_option maxHeartbeats 4000000 in
set_option maxRecDepth 20000 in
theorem c_ticksTillTurned (l : Launch) (G : GG) {σ τ : Sg} {s : WS} (h : isWk σ τ s) : CpI l G mX5_ticksTillTurned 4 shT [.ref (ad G 46)] τ (tlR (tlN (gA σ) (s.2 6) 200 s)) (fun ρ => ∃ x, isWk σ ρ x) := by
  have e6 := h.2.1 6 (by omega)
  refine ct_intro (by decide) (Nat.le_of_ble_eq_true rfl) (fun X B R => ?_)
  show V X G shT τ [some (.ref (ad G 46)), none, none] [] 0
  refine r_aload_n (pc := 0) B dX5_ticksTillTurned_0 rfl ?_
  refine r_getr (pc := 1) B FX5_21 rfl rfl dX5_ticksTillTurned_1 ?_
  refine r_geti (pc := 4) B FX5_59 rfl rfl dX5_ticksTillTurned_4 ?_
  rw [e6]
  refine r_istore_1 (pc := 7) B dX5_ticksTillTurned_7 (by decide) rfl ?_
  refine r_iconst (pc := 8) (x := 1) B dX5_ticksTillTurned_8 (by decide) ?_
  refine r_istore_2 (pc := 9) B dX5_ticksTillTurned_9 (by decide) rfl ?_
  have hL10 : ∀ (n i : Nat) (ρ : Sg) (x : WS), i + n = 201 → tlR (tlN (gA σ) (s.2 6) 200 s) = tlR ((tlN (gA σ) (s.2 6) n x).map (· + (i - 1))) → 1 ≤ i → isWk σ ρ x → V X G shT ρ [some (.ref (ad G 46)), some (.int (s.2 6)), some (.int (nI i))] [] 10 := by
    intro n
    induction n with
    | zero =>
      intro i ρ x hi hq h1 hw
      have ei : i = 201 := by omega
      subst ei
      refine r_iload_n (pc := 10) B dX5_ticksTillTurned_10 rfl ?_
      refine r_sipush (pc := 11) (x := 200) B dX5_ticksTillTurned_11 (by decide) ?_
      refine r_icmp_gt (pc := 14) B 40 dX5_ticksTillTurned_14 (by decide) (fun h14 => ?_) (fun h14 => ?_)
      · skip
        refine r_iconst (pc := 40) (x := (-1)) B dX5_ticksTillTurned_40 (by decide) ?_
        exact r_iret (pc := 41) B R dX5_ticksTillTurned_41 ⟨by rw [hq, tlN]; rfl, _, hw⟩
      · skip
        exact absurd ((nI_ltI (a := 200) (b := 201) (by omega) (by omega)).mpr (by omega)) h14
    | succ n ih =>
      intro i ρ x hi hq h1 hw
      refine r_iload_n (pc := 10) B dX5_ticksTillTurned_10 rfl ?_
      refine r_sipush (pc := 11) (x := 200) B dX5_ticksTillTurned_11 (by decide) ?_
      refine r_icmp_gt (pc := 14) B 40 dX5_ticksTillTurned_14 (by decide) (fun h14 => ?_) (fun h14 => ?_)
      · skip
        exact absurd ((nI_ltI (a := 200) (by omega) (by omega)).mp h14) (by omega)
      · skip
        refine r_aload_n (pc := 17) B dX5_ticksTillTurned_17 rfl ?_
        refine r_cVpv0 (pc := 18) B KX5_56 (c_goOn l G hw) rfl rfl (by decide) (Nat.le_of_ble_eq_true rfl) dX5_ticksTillTurned_18 (fun ρ2 hw2 => ?_)
        refine r_aload_n (pc := 21) B dX5_ticksTillTurned_21 rfl ?_
        refine r_getr (pc := 22) B FX5_21 rfl rfl dX5_ticksTillTurned_22 ?_
        refine r_geti (pc := 25) B FX5_59 rfl rfl dX5_ticksTillTurned_25 ?_
        have e62 := hw2.2.1 6 (by omega)
        rw [e62]
        refine r_iload_n (pc := 28) B dX5_ticksTillTurned_28 rfl ?_
        refine r_icmp_le (pc := 29) B 34 dX5_ticksTillTurned_29 (by decide) (fun h29 => ?_) (fun h29 => ?_)
        · skip
          refine r_iinc_2 (pc := 34) (y := _ + 1) B dX5_ticksTillTurned_34 rfl (by decide) rfl ?_
          refine r_goto (pc := 37) B 10 dX5_ticksTillTurned_37 (by decide) ?_
          rw [nI_1]
          refine ih (i + 1) _ _ (by omega) ?_ (by omega) hw2
          rw [hq, tlN, if_pos h29, Option.map_map]
          congr 2
          funext q
          show q + 1 + (i - 1) = q + (i + 1 - 1)
          omega
        · skip
          refine r_iload_n (pc := 32) B dX5_ticksTillTurned_32 rfl ?_
          exact r_iret (pc := 33) B R dX5_ticksTillTurned_33 ⟨by rw [hq, tlN, if_neg h29]; show _ = some (Value.int (nI (1 + (i - 1)))); rw [show 1 + (i - 1) = i by omega], _, hw2⟩
  exact hL10 200 1 τ s (by omega) (by simp) (by omega) h
noncomputable def chN_dec (F : WS → WS) (t : Int32) : ∀ (n : Nat) (s : WS), Decidable (chN F t n s)
  | 0, s => by unfold chN; exact inferInstance
  | n + 1, s => by
    have := chN_dec F t n (F s)
    unfold chN; exact inferInstance
noncomputable def chB (F : WS → WS) (t : Int32) (n : Nat) (s : WS) : Int32 := @bI (chN F t n s) (chN_dec F t n s)
theorem chB_t {F : WS → WS} {t : Int32} {n : Nat} {s : WS} (h : chN F t n s) : chB F t n s = 1 := by unfold chB bI; simp [h]
theorem chB_f {F : WS → WS} {t : Int32} {n : Nat} {s : WS} (h : ¬ chN F t n s) : chB F t n s = 0 := by unfold chB bI; simp [h]
theorem chB_eq {F : WS → WS} {t : Int32} {n m : Nat} {s x : WS} (h : chN F t n s ↔ chN F t m x) : chB F t n s = chB F t m x := by
  by_cases q : chN F t n s
  · rw [chB_t q, chB_t (h.mp q)]
  · rw [chB_f q, chB_f (fun z => q (h.mpr z))]
noncomputable def flN_dec (F : WS → WS) (f : Nat → Int32) : ∀ (n i : Nat) (s : WS), Decidable (flN F f n i s)
  | 0, i, s => by unfold flN; exact inferInstance
  | n + 1, i, s => by
    have := flN_dec F f n (i + 1) (F s)
    unfold flN; exact inferInstance
noncomputable def flB (F : WS → WS) (f : Nat → Int32) (n i : Nat) (s : WS) : Int32 := @bI (flN F f n i s) (flN_dec F f n i s)
theorem flB_t {F : WS → WS} {f : Nat → Int32} {n i : Nat} {s : WS} (h : flN F f n i s) : flB F f n i s = 1 := by unfold flB bI; simp [h]
theorem flB_f {F : WS → WS} {f : Nat → Int32} {n i : Nat} {s : WS} (h : ¬ flN F f n i s) : flB F f n i s = 0 := by unfold flB bI; simp [h]

set_option maxHeartbeats 4000000 in
set_option maxRecDepth 20000 in
theorem c_comesHomeUnturned (l : Launch) (G : GG) {σ τ : Sg} {s : WS} (h : isWk σ τ s) : CpI l G mX5_comesHomeUnturned 4 shT [.ref (ad G 46)] τ (chB (gA σ) (s.2 6) 200 s) (fun ρ => ∃ x, isWk σ ρ x) := by
  have e6 := h.2.1 6 (by omega)
  refine ct_intro (by decide) (Nat.le_of_ble_eq_true rfl) (fun X B R => ?_)
  show V X G shT τ [some (.ref (ad G 46)), none, none] [] 0
  refine r_aload_n (pc := 0) B dX5_comesHomeUnturned_0 rfl ?_
  refine r_getr (pc := 1) B FX5_21 rfl rfl dX5_comesHomeUnturned_1 ?_
  refine r_geti (pc := 4) B FX5_59 rfl rfl dX5_comesHomeUnturned_4 ?_
  rw [e6]
  refine r_istore_1 (pc := 7) B dX5_comesHomeUnturned_7 (by decide) rfl ?_
  refine r_iconst (pc := 8) (x := 0) B dX5_comesHomeUnturned_8 (by decide) ?_
  refine r_istore_2 (pc := 9) B dX5_comesHomeUnturned_9 (by decide) rfl ?_
  have hL10 : ∀ (n i : Nat) (ρ : Sg) (x : WS), i + n = 200 → (chN (gA σ) (s.2 6) 200 s ↔ chN (gA σ) (s.2 6) n x) → isWk σ ρ x → V X G shT ρ [some (.ref (ad G 46)), some (.int (s.2 6)), some (.int (nI i))] [] 10 := by
    intro n
    induction n with
    | zero =>
      intro i ρ x hi hq hw
      have ei : i = 200 := by omega
      subst ei
      have e1 := hw.2.1 1 (by omega)
      refine r_iload_n (pc := 10) B dX5_comesHomeUnturned_10 rfl ?_
      refine r_sipush (pc := 11) (x := 200) B dX5_comesHomeUnturned_11 (by decide) ?_
      refine r_icmp_ge (pc := 14) B 52 dX5_comesHomeUnturned_14 (by decide) (fun h14 => ?_) (fun h14 => ?_)
      · skip
        refine r_aload_n (pc := 52) B dX5_comesHomeUnturned_52 rfl ?_
        refine r_getr (pc := 53) B FX5_21 rfl rfl dX5_comesHomeUnturned_53 ?_
        refine r_geti (pc := 56) B FX5_52 rfl rfl dX5_comesHomeUnturned_56 ?_
        rw [e1]
        refine r_bipush (pc := 59) (x := 16) B dX5_comesHomeUnturned_59 (by decide) ?_
        refine r_bz_icmp_ne (pc := 61) B dX5_comesHomeUnturned_61 dX5_comesHomeUnturned_64 dX5_comesHomeUnturned_65 dX5_comesHomeUnturned_68 ?_
        exact r_zret (pc := 69) B R (by first | decide | exact bI_01 _) dX5_comesHomeUnturned_69 ⟨by by_cases z : x.2 1 = 16 <;> first | rw [chB_t (hq.mpr z), ← bI_t z] | rw [chB_f (fun y => z (hq.mp y)), ← bI_f z], _, hw⟩
      · skip
        exact absurd h14 (by decide)
    | succ n ih =>
      intro i ρ x hi hq hw
      have e1 := hw.2.1 1 (by omega)
      refine r_iload_n (pc := 10) B dX5_comesHomeUnturned_10 rfl ?_
      refine r_sipush (pc := 11) (x := 200) B dX5_comesHomeUnturned_11 (by decide) ?_
      refine r_icmp_ge (pc := 14) B 52 dX5_comesHomeUnturned_14 (by decide) (fun h14 => ?_) (fun h14 => ?_)
      · skip
        exact absurd (nI_ge_of (n := 200) (by omega) (by omega) h14) (by omega)
      · skip
        refine r_aload_n (pc := 17) B dX5_comesHomeUnturned_17 rfl ?_
        refine r_getr (pc := 18) B FX5_21 rfl rfl dX5_comesHomeUnturned_18 ?_
        refine r_geti (pc := 21) B FX5_52 rfl rfl dX5_comesHomeUnturned_21 ?_
        rw [e1]
        refine r_bipush (pc := 24) (x := 16) B dX5_comesHomeUnturned_24 (by decide) ?_
        refine r_icmp_eq (pc := 26) B 52 dX5_comesHomeUnturned_26 (by decide) (fun h26 => ?_) (fun h26 => ?_)
        · skip
          refine r_aload_n (pc := 52) B dX5_comesHomeUnturned_52 rfl ?_
          refine r_getr (pc := 53) B FX5_21 rfl rfl dX5_comesHomeUnturned_53 ?_
          refine r_geti (pc := 56) B FX5_52 rfl rfl dX5_comesHomeUnturned_56 ?_
          rw [e1]
          refine r_bipush (pc := 59) (x := 16) B dX5_comesHomeUnturned_59 (by decide) ?_
          refine r_bz_icmp_ne (pc := 61) B dX5_comesHomeUnturned_61 dX5_comesHomeUnturned_64 dX5_comesHomeUnturned_65 dX5_comesHomeUnturned_68 ?_
          exact r_zret (pc := 69) B R (by first | decide | exact bI_01 _) dX5_comesHomeUnturned_69 ⟨by rw [chB_t (hq.mpr (Or.inl h26)), ← bI_t h26], _, hw⟩
        · skip
          refine r_aload_n (pc := 29) B dX5_comesHomeUnturned_29 rfl ?_
          refine r_cVpv0 (pc := 30) B KX5_56 (c_goOn l G hw) rfl rfl (by decide) (Nat.le_of_ble_eq_true rfl) dX5_comesHomeUnturned_30 (fun ρ2 hw2 => ?_)
          refine r_aload_n (pc := 33) B dX5_comesHomeUnturned_33 rfl ?_
          refine r_getr (pc := 34) B FX5_21 rfl rfl dX5_comesHomeUnturned_34 ?_
          refine r_geti (pc := 37) B FX5_59 rfl rfl dX5_comesHomeUnturned_37 ?_
          have e62 := hw2.2.1 6 (by omega)
          rw [e62]
          refine r_iload_n (pc := 40) B dX5_comesHomeUnturned_40 rfl ?_
          refine r_icmp_eq (pc := 41) B 46 dX5_comesHomeUnturned_41 (by decide) (fun h41 => ?_) (fun h41 => ?_)
          · skip
            refine r_iinc_2 (pc := 46) (y := _ + 1) B dX5_comesHomeUnturned_46 rfl (by decide) rfl ?_
            refine r_goto (pc := 49) B 10 dX5_comesHomeUnturned_49 (by decide) ?_
            rw [nI_1]
            refine ih (i + 1) _ _ (by omega) ?_ hw2
            rw [hq, chN]
            exact ⟨fun z => z.elim (fun z => absurd z h26) (fun z => z.2), fun z => Or.inr ⟨h41, z⟩⟩
          · skip
            refine r_iconst (pc := 44) (x := 0) B dX5_comesHomeUnturned_44 (by decide) ?_
            exact r_zret (pc := 45) B R (by first | decide | exact bI_01 _) dX5_comesHomeUnturned_45 ⟨by rw [chB_f (fun z => (hq.mp z).elim h26 (fun z => h41 z.1))], _, hw2⟩
  exact hL10 200 0 τ s (by omega) Iff.rfl h
set_option maxHeartbeats 4000000 in
set_option maxRecDepth 20000 in
theorem c_follows (l : Launch) (G : GG) {σ τ : Sg} {s : WS} (h : isWk σ τ s) {H N : Nat} (hH : isH H) (hN : N ≤ 40) (hz : σ H 2 = nI N) : CpI l G mX5_follows 4 shT [.ref (ad G 46), .ref (ad G H)] τ (flB (gA σ) (σ (H + 1)) N 0 s) (fun ρ => ∃ x, isWk σ ρ x) := by
  have n1 : H ≠ 47 := by unfold isH at hH; omega
  have n2 : H ≠ 51 := by unfold isH at hH; omega
  have n3 : H + 1 ≠ 47 := by unfold isH at hH; omega
  have n4 : H + 1 ≠ 51 := by unfold isH at hH; omega
  refine ct_intro (by decide) (Nat.le_of_ble_eq_true rfl) (fun X B R => ?_)
  show V X G shT τ [some (.ref (ad G 46)), some (.ref (ad G H)), none] [] 0
  refine r_iconst (pc := 0) (x := 0) B dX5_follows_0 (by decide) ?_
  refine r_istore_2 (pc := 1) B dX5_follows_1 (by decide) rfl ?_
  have hL2 : ∀ (n i : Nat) (ρ : Sg) (x : WS), i + n = N → (flN (gA σ) (σ (H + 1)) N 0 s ↔ flN (gA σ) (σ (H + 1)) n i x) → isWk σ ρ x → V X G shT ρ [some (.ref (ad G 46)), some (.ref (ad G H)), some (.int (nI i))] [] 2 := by
    intro n
    induction n with
    | zero =>
      intro i ρ x hi hq hw
      have ei : i = N := by omega
      subst ei
      have ez : ρ H 2 = nI i := by rw [hw.2.2.1 H n1 n2]; exact hz
      refine r_iload_n (pc := 2) B dX5_follows_2 rfl ?_
      refine r_aload_n (pc := 3) B dX5_follows_3 rfl ?_
      refine r_geti (pc := 4) B FX5_62 (shH hH) rfl dX5_follows_4 ?_
      rw [ez]
      refine r_icmp_ge (pc := 7) B 48 dX5_follows_7 (by decide) (fun h7 => ?_) (fun h7 => ?_)
      · skip
        refine r_iconst (pc := 48) (x := 1) B dX5_follows_48 (by decide) ?_
        exact r_zret (pc := 49) B R (by first | decide | exact bI_01 _) dX5_follows_49 ⟨by rw [flB_t (hq.mpr trivial)], _, hw⟩
      · skip
        exact absurd ((nI_leI (by omega) (by omega)).mpr (Nat.le_refl i)) h7
    | succ n ih =>
      intro i ρ x hi hq hw
      have ez : ρ H 2 = nI N := by rw [hw.2.2.1 H n1 n2]; exact hz
      have ef := hw.2.2.1 (H + 1) n3 n4
      have e1 := hw.2.1 1 (by omega)
      have hi40 : i < 40 := by omega
      refine r_iload_n (pc := 2) B dX5_follows_2 rfl ?_
      refine r_aload_n (pc := 3) B dX5_follows_3 rfl ?_
      refine r_geti (pc := 4) B FX5_62 (shH hH) rfl dX5_follows_4 ?_
      rw [ez]
      refine r_icmp_ge (pc := 7) B 48 dX5_follows_7 (by decide) (fun h7 => ?_) (fun h7 => ?_)
      · skip
        exact absurd (nI_ge_of (by omega) (by omega) h7) (by omega)
      · skip
        refine r_aload_n (pc := 10) B dX5_follows_10 rfl ?_
        refine r_getr (pc := 11) B FX5_67 (shH hH) rfl dX5_follows_11 ?_
        refine r_iload_n (pc := 14) B dX5_follows_14 rfl ?_
        refine r_iald (pc := 15) B (shH1 hH) (ix_nI hi40 (by decide)) dX5_follows_15 ?_
        rw [ef]
        refine r_iconst (pc := 16) (x := (-1)) B dX5_follows_16 (by decide) ?_
        refine r_icmp_eq (pc := 17) B 38 dX5_follows_17 (by decide) (fun h17 => ?_) (fun h17 => ?_)
        · skip
          refine r_aload_n (pc := 38) B dX5_follows_38 rfl ?_
          refine r_cVpv0 (pc := 39) B KX5_56 (c_goOn l G hw) rfl rfl (by decide) (Nat.le_of_ble_eq_true rfl) dX5_follows_39 (fun ρ2 hw2 => ?_)
          refine r_iinc_2 (pc := 42) (y := _ + 1) B dX5_follows_42 rfl (by decide) rfl ?_
          refine r_goto (pc := 45) B 2 dX5_follows_45 (by decide) ?_
          rw [nI_1]
          refine ih (i + 1) _ _ (by omega) ?_ hw2
          rw [hq, flN]
          first | exact ⟨fun z => z.2, fun z => ⟨Or.inl h17, z⟩⟩ | exact ⟨fun z => z.2, fun z => ⟨Or.inr h33, z⟩⟩
        · skip
          refine r_aload_n (pc := 20) B dX5_follows_20 rfl ?_
          refine r_getr (pc := 21) B FX5_67 (shH hH) rfl dX5_follows_21 ?_
          refine r_iload_n (pc := 24) B dX5_follows_24 rfl ?_
          refine r_iald (pc := 25) B (shH1 hH) (ix_nI hi40 (by decide)) dX5_follows_25 ?_
          rw [ef]
          refine r_aload_n (pc := 26) B dX5_follows_26 rfl ?_
          refine r_getr (pc := 27) B FX5_21 rfl rfl dX5_follows_27 ?_
          refine r_geti (pc := 30) B FX5_52 rfl rfl dX5_follows_30 ?_
          rw [e1]
          refine r_icmp_eq (pc := 33) B 38 dX5_follows_33 (by decide) (fun h33 => ?_) (fun h33 => ?_)
          · skip
            refine r_aload_n (pc := 38) B dX5_follows_38 rfl ?_
            refine r_cVpv0 (pc := 39) B KX5_56 (c_goOn l G hw) rfl rfl (by decide) (Nat.le_of_ble_eq_true rfl) dX5_follows_39 (fun ρ2 hw2 => ?_)
            refine r_iinc_2 (pc := 42) (y := _ + 1) B dX5_follows_42 rfl (by decide) rfl ?_
            refine r_goto (pc := 45) B 2 dX5_follows_45 (by decide) ?_
            rw [nI_1]
            refine ih (i + 1) _ _ (by omega) ?_ hw2
            rw [hq, flN]
            first | exact ⟨fun z => z.2, fun z => ⟨Or.inl h17, z⟩⟩ | exact ⟨fun z => z.2, fun z => ⟨Or.inr h33, z⟩⟩
          · skip
            refine r_iconst (pc := 36) (x := 0) B dX5_follows_36 (by decide) ?_
            exact r_zret (pc := 37) B R (by first | decide | exact bI_01 _) dX5_follows_37 ⟨by rw [flB_f (fun z => (hq.mp z).1.elim h17 h33)], _, hw⟩
  exact hL2 N 0 τ s (by omega) Iff.rfl h
set_option maxHeartbeats 4000000 in
set_option maxRecDepth 20000 in
theorem c_chooseM (l : Launch) (G : GG) (σ : Sg) {f : Nat} (hf : f < 8) (v : Int32) : CtI l G mX5_choose 2 shT [.ref (ad G 46), .int (nI f), .int v] σ 1 (st2 σ 51 f v) := by
  refine ct_intro (by decide) (Nat.le_of_ble_eq_true rfl) (fun X B R => ?_)
  show V X G shT σ [some (.ref (ad G 46)), some (.int (nI f)), some (.int v)] [] 0
  refine r_iload_n (pc := 0) B dX5_choose_0 rfl ?_
  refine r_bipush (pc := 1) (x := 20) B dX5_choose_1 (by decide) ?_
  refine r_icmp_ne (pc := 3) B 41 dX5_choose_3 (by decide) (fun h3 => ?_) (fun h3 => ?_)
  · skip
    refine r_iload_n (pc := 41) B dX5_choose_41 rfl ?_
    refine r_bipush (pc := 42) (x := 21) B dX5_choose_42 (by decide) ?_
    refine r_icmp_ne (pc := 44) B 58 dX5_choose_44 (by decide) (fun h44 => ?_) (fun h44 => ?_)
    · skip
      refine r_aload_n (pc := 58) B dX5_choose_58 rfl ?_
      refine r_getr (pc := 59) B FX5_21 rfl rfl dX5_choose_59 ?_
      refine r_iload_n (pc := 62) B dX5_choose_62 rfl ?_
      refine r_iload_n (pc := 63) B dX5_choose_63 rfl ?_
      refine r_cVv2 (pc := 64) B KX5_44 (c_setMark l G _ (Or.inr (Or.inr (Or.inr rfl))) hf _) rfl rfl (by decide) (Nat.le_of_ble_eq_true rfl) dX5_choose_64 ?_
      refine r_iconst (pc := 67) (x := 1) B dX5_choose_67 (by decide) ?_
      exact r_zret (pc := 68) B R (by first | decide | exact bI_01 _) dX5_choose_68 ⟨rfl, rfl⟩
    · skip
      exact absurd (nI_is h44 (c := 21) rfl (by omega) (by decide)) (by omega)
  · skip
    exact absurd (nI_is h3 (c := 20) rfl (by omega) (by decide)) (by omega)
set_option maxHeartbeats 4000000 in
set_option maxRecDepth 20000 in
theorem c_chooseW (l : Launch) (G : GG) (σ : Sg) (v : Int32) : CtI l G mX5_choose 2 shT [.ref (ad G 46), .int 21, .int v] σ 1 (st2 σ 47 5 (mn 99999 (σ 47 5 + v))) := by
  refine ct_intro (by decide) (Nat.le_of_ble_eq_true rfl) (fun X B R => ?_)
  show V X G shT σ [some (.ref (ad G 46)), some (.int 21), some (.int v)] [] 0
  refine r_iload_n (pc := 0) B dX5_choose_0 rfl ?_
  refine r_bipush (pc := 1) (x := 20) B dX5_choose_1 (by decide) ?_
  refine r_icmp_ne (pc := 3) B 41 dX5_choose_3 (by decide) (fun h3 => ?_) (fun h3 => ?_)
  · skip
    refine r_iload_n (pc := 41) B dX5_choose_41 rfl ?_
    refine r_bipush (pc := 42) (x := 21) B dX5_choose_42 (by decide) ?_
    refine r_icmp_ne (pc := 44) B 58 dX5_choose_44 (by decide) (fun h44 => ?_) (fun h44 => ?_)
    · skip
      exact absurd rfl h44
    · skip
      refine r_aload_n (pc := 47) B dX5_choose_47 rfl ?_
      refine r_getr (pc := 48) B FX5_12 rfl rfl dX5_choose_48 ?_
      refine r_iload_n (pc := 51) B dX5_choose_51 rfl ?_
      refine r_cVv1 (pc := 52) B KX5_40 (c_nextTick l G _ (Or.inr (Or.inr (Or.inr rfl))) _) rfl rfl (by decide) (Nat.le_of_ble_eq_true rfl) dX5_choose_52 ?_
      refine r_goto (pc := 55) B 67 dX5_choose_55 (by decide) ?_
      refine r_iconst (pc := 67) (x := 1) B dX5_choose_67 (by decide) ?_
      exact r_zret (pc := 68) B R (by first | decide | exact bI_01 _) dX5_choose_68 ⟨rfl, rfl⟩
  · skip
    exact absurd h3 (by decide)
set_option maxHeartbeats 4000000 in
set_option maxRecDepth 20000 in
theorem c_chooseR (l : Launch) (G : GG) (σ : Sg) {j : Nat} (hj : j < 16) : CtI l G mX5_choose 2 shT [.ref (ad G 46), .int 20, .int (nI j)] σ (bI (¬ σ 50 j = 1)) (if σ 50 j = 1 then σ else st2 σ 50 j 1) := by
  refine ct_intro (by decide) (Nat.le_of_ble_eq_true rfl) (fun X B R => ?_)
  show V X G shT σ [some (.ref (ad G 46)), some (.int 20), some (.int (nI j))] [] 0
  refine r_iload_n (pc := 0) B dX5_choose_0 rfl ?_
  refine r_bipush (pc := 1) (x := 20) B dX5_choose_1 (by decide) ?_
  refine r_icmp_ne (pc := 3) B 41 dX5_choose_3 (by decide) (fun h3 => ?_) (fun h3 => ?_)
  · skip
    exact absurd rfl h3
  · skip
    refine r_iload_n (pc := 6) B dX5_choose_6 rfl ?_
    refine r_cNi1 (pc := 7) B KX5_32 (c_isStep l G _ _ _) (by decide) (Nat.le_of_ble_eq_true rfl) dX5_choose_7 ?_
    refine r_if_eq (pc := 10) B 26 dX5_choose_10 (by decide) (fun h10 => ?_) (fun h10 => ?_)
    · skip
      exact absurd (nI_stepP hj) (bI_0.mp h10)
    · skip
      refine r_aload_n (pc := 13) B dX5_choose_13 rfl ?_
      refine r_getr (pc := 14) B FX5_12 rfl rfl dX5_choose_14 ?_
      refine r_getr (pc := 17) B FX5_36 rfl rfl dX5_choose_17 ?_
      refine r_iload_n (pc := 20) B dX5_choose_20 rfl ?_
      refine r_iald (pc := 21) B rfl (ix_nI hj (by decide)) dX5_choose_21 ?_
      refine r_iconst (pc := 22) (x := 1) B dX5_choose_22 (by decide) ?_
      refine r_icmp_ne (pc := 23) B 28 dX5_choose_23 (by decide) (fun h23 => ?_) (fun h23 => ?_)
      · skip
        refine r_aload_n (pc := 28) B dX5_choose_28 rfl ?_
        refine r_getr (pc := 29) B FX5_12 rfl rfl dX5_choose_29 ?_
        refine r_getr (pc := 32) B FX5_36 rfl rfl dX5_choose_32 ?_
        refine r_iload_n (pc := 35) B dX5_choose_35 rfl ?_
        refine r_iconst (pc := 36) (x := 1) B dX5_choose_36 (by decide) ?_
        refine r_iast (pc := 37) B rfl (ix_nI hj (by decide)) dX5_choose_37 ?_
        refine r_goto (pc := 38) B 67 dX5_choose_38 (by decide) ?_
        refine r_iconst (pc := 67) (x := 1) B dX5_choose_67 (by decide) ?_
        exact r_zret (pc := 68) B R (by first | decide | exact bI_01 _) dX5_choose_68 ⟨by simp [bI, h23], by simp [h23]⟩
      · skip
        refine r_iconst (pc := 26) (x := 0) B dX5_choose_26 (by decide) ?_
        exact r_zret (pc := 27) B R (by first | decide | exact bI_01 _) dX5_choose_27 ⟨by simp [bI, h23], by simp [h23]⟩
set_option maxHeartbeats 4000000 in
set_option maxRecDepth 20000 in
theorem c_start (l : Launch) (G : GG) (σ : Sg) {S U : Nat} (hS : isS S) (hU : isU U) (h1 : S + 4 ≤ 47) (h2 : U < 47) : CtV l G mX5_start 2 shT [.ref (ad G 46), .ref (ad G S), .ref (ad G U)] σ (wrU (cpSt σ 47 S) 51 (σ U)) := by
  refine ct_intro (by decide) (Nat.le_of_ble_eq_true rfl) (fun X B R => ?_)
  show V X G shT σ [some (.ref (ad G 46)), some (.ref (ad G S)), some (.ref (ad G U))] [] 0
  refine r_aload_n (pc := 0) B dX5_start_0 rfl ?_
  refine r_getr (pc := 1) B FX5_12 rfl rfl dX5_start_1 ?_
  refine r_aload_n (pc := 4) B dX5_start_4 rfl ?_
  refine r_cVv1 (pc := 5) B KX5_25 (c_ssetTo l G _ (Or.inr (Or.inr (Or.inr rfl))) hS (by omega)) rfl rfl (by decide) (Nat.le_of_ble_eq_true rfl) dX5_start_5 ?_
  refine r_aload_n (pc := 8) B dX5_start_8 rfl ?_
  refine r_getr (pc := 9) B FX5_21 rfl rfl dX5_start_9 ?_
  refine r_aload_n (pc := 12) B dX5_start_12 rfl ?_
  refine r_cVv1 (pc := 13) B KX5_29 (c_usetTo l G _ (Or.inr (Or.inr (Or.inr rfl))) hU (by omega)) rfl rfl (by decide) (Nat.le_of_ble_eq_true rfl) dX5_start_13 ?_
  exact r_vret (pc := 16) B R dX5_start_16 ⟨rfl, by congr 1; funext i; simp only [cpSt]; grind⟩

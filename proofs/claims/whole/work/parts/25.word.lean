/-! a TEXT, read token by token into a row -/
abbrev wdP (by1 : Nat → Int32) (L : Nat) (t : TS) (i : Nat) : Prop := t.2.2.1 = 1 ∧ t.2.1 - t.1 = sL.getD i 0 ∧ ∀ j, j < sL.getD i 0 → (sB.getD i []).getD j 0 = bA by1 L (t.1 + j)
abbrev RES : Type := Bool × TS × (Nat → Int32)
def nx (by1 : Nat → Int32) (L : Nat) (t : TS) : TS := tkF by1 L t.2.1
abbrev okN (t : TS) (g : Nat) : Prop := t.2.2.1 = 2 ∧ t.2.2.2 ≤ g
def mkF (by1 : Nat → Int32) (L i u f g : Nat) (t : TS) (w : Nat → Int32) : RES := if wdP by1 L t i then (if okN (nx by1 L t) g then (true, nx by1 L (nx by1 L t), upd w (53 + 8 * u + f) (nI (nx by1 L t).2.2.2)) else (false, nx by1 L t, w)) else (true, t, w)
def bnR (r : RES) (k : TS → (Nat → Int32) → RES) : RES := if r.1 = true then k r.2.1 r.2.2 else r
def umC (by1 : Nat → Int32) (L n : Nat) (t : TS) (w : Nat → Int32) : RES := bnR (mkF by1 L 7 n 1 16 t w) (fun t w => bnR (mkF by1 L 8 n 4 8 t w) (fun t w => bnR (mkF by1 L 9 n 2 3 t w) (fun t w => mkF by1 L 10 n 3 3 t w)))
def umF (by1 : Nat → Int32) (L a : Nat) (t : TS) (w : Nat → Int32) : RES := if (w 0).toNatClampNeg = 8 then (false, t, w) else umC by1 L (w 0).toNatClampNeg (nx by1 L t) (upd (putU w (w 0).toNatClampNeg (newU (nI a))) 0 (nI ((w 0).toNatClampNeg + 1)))
def wnF (by1 : Nat → Int32) (L c : Nat) (t : TS) (w : Nat → Int32) : RES := if okN (nx by1 L t) 15 then (if okN (nx by1 L (nx by1 L t)) 99 then (true, nx by1 L (nx by1 L (nx by1 L t)), upd (upd w (5 + (nx by1 L t).2.2.2) (nI c)) (21 + (nx by1 L t).2.2.2) (nI (nx by1 L (nx by1 L t)).2.2.2)) else (false, nx by1 L (nx by1 L t), w)) else (false, nx by1 L t, w)
def rfF (by1 : Nat → Int32) (L : Nat) (v : Int32) (t : TS) (w : Nat → Int32) : RES := if okN (nx by1 L t) 15 then (true, nx by1 L (nx by1 L t), upd w (37 + (nx by1 L t).2.2.2) v) else (false, nx by1 L t, w)
def weF (by1 : Nat → Int32) (L k : Nat) (t : TS) (w : Nat → Int32) : RES := if okN (nx by1 L t) 99 then (true, nx by1 L (nx by1 L t), upd w (3 + k) (nI (nx by1 L t).2.2.2)) else (false, nx by1 L t, w)
def kS (a : Nat) : Nat := if a = 0 then 6 else a - 1
def fdN (P : Nat → Prop) (dp : ∀ a, Decidable (P a)) : Nat → Nat → Option Nat
  | 0, _ => none
  | n + 1, a => if P a then some a else fdN P dp n (a + 1)
def itS (by1 : Nat → Int32) (L : Nat) (t : TS) (w : Nat → Int32) : RES := if wdP by1 L t 14 then rfF by1 L 1 t w else if wdP by1 L t 15 then rfF by1 L 0 t w else if wdP by1 L t 16 then weF by1 L 0 t w else if wdP by1 L t 17 then weF by1 L 1 t w else (false, t, w)
def itF (by1 : Nat → Int32) (L : Nat) (t : TS) (w : Nat → Int32) : RES := match fdN (fun a => wdP by1 L t (kS a)) (fun _ => inferInstance) 7 0 with
  | some a => umF by1 L a t w
  | none => match fdN (fun a => wdP by1 L t (11 + a)) (fun _ => inferInstance) 3 0 with
    | some c => wnF by1 L c t w
    | none => itS by1 L t w
def txN (by1 : Nat → Int32) (L : Nat) : Nat → Nat → TS → (Nat → Int32) → Int32 × (Nat → Int32)
  | 0, _, t, w => (-1 - nI t.1, w)
  | n + 1, i, t, w => if (itF by1 L t w).1 = true then (if (itF by1 L t w).2.1.2.2.1 = 0 then (nI i, (itF by1 L t w).2.2) else if (itF by1 L t w).2.1.2.2.1 = 3 then txN by1 L n (i + 1) (nx by1 L (itF by1 L t w).2.1) (itF by1 L t w).2.2 else (-1 - nI (itF by1 L t w).2.1.1, (itF by1 L t w).2.2)) else (-1 - nI (itF by1 L t w).2.1.1, (itF by1 L t w).2.2)
/-- the reader stands at t, the draft is w, all else is as in ζ -/
def rdW (ζ σ : Sg) (L : Nat) (t : TS) (w : Nat → Int32) : Prop := rdS σ t ∧ (∀ j, j < 127 → vw 31 σ j = w j) ∧ (∀ k, (k < 31 ∨ 46 ≤ k) → k ≠ 54 → σ k = ζ k) ∧ (t.1 ≤ t.2.1 ∧ t.2.1 ≤ L)
abbrev tpP (ζ : Sg) (L : Nat) : Prop := L ≤ 120 ∧ ζ 52 1 = nI L
theorem rdW.tp {ζ σ : Sg} {L : Nat} {t : TS} {w : Nat → Int32} (h : rdW ζ σ L t w) (hz : tpP ζ L) : tpP σ L := ⟨hz.1, by rw [h.2.2.1 52 (by omega) (by omega)]; exact hz.2⟩
theorem rdW.by {ζ σ : Sg} {L : Nat} {t : TS} {w : Nat → Int32} (h : rdW ζ σ L t w) : σ 53 = ζ 53 := h.2.2.1 53 (by omega) (by omega)
theorem vw_rdO {σ τ : Sg} (h : rdO σ τ) {j : Nat} (hj : j < 127) : vw 31 τ j = vw 31 σ j := by
  unfold vw
  rw [h _ (by rcases lc_cell j with q | q <;> (try omega); (have e := lc_p (k := j - 117) (by omega)); rw [show 117 + (j - 117) = j by omega] at e; rw [e]; omega)]
theorem c_rdT (l : Launch) (G : GG) {ζ σ : Sg} {L : Nat} {t : TS} {w : Nat → Int32} (hz : tpP ζ L) (h : rdW ζ σ L t w) : CpV l G mX0_readToken 1 shT [.ref (ad G 54)] σ (fun τ => rdW ζ τ L (nx (ζ 53) L t) w) := by
  refine (c_readToken l G σ hz.1 (h.tp hz).2 h.2.2.2.2 h.1.2.1).mono (fun r τ q => ⟨q.1, ?_⟩)
  obtain ⟨q1, q2⟩ := q.2
  rw [h.by] at q1
  have le := tkF_le (by1 := ζ 53) h.2.2.2.2
  exact ⟨q1, fun j hj => (vw_rdO q2 hj).trans (h.2.1 j hj), fun k h1 h2 => (q2 k h2).trans (h.2.2.1 k h1 h2), le.2.1, le.2.2⟩
/-- what the draft's change leaves -/
theorem rdW.wr {ζ σ τ : Sg} {L : Nat} {t : TS} {w x : Nat → Int32} (h : rdW ζ σ L t w) (h2 : isWr 31 σ τ x) : rdW ζ τ L t x := by
  have e := h2.2 54 (by omega)
  refine ⟨?_, h2.1, fun k h1 h3 => (h2.2 k (by omega)).trans (h.2.2.1 k h1 h3), h.2.2.2⟩
  obtain ⟨a, b, c, d⟩ := h.1
  exact ⟨by rw [e]; exact a, by rw [e]; exact b, by rw [e]; exact c, by rw [e]; exact d⟩
theorem rdW.is {ζ σ : Sg} {L : Nat} {t : TS} {w : Nat → Int32} (h : rdW ζ σ L t w) : isWr 31 σ σ w := ⟨h.2.1, fun _ _ => rfl⟩
def nnR (t : TS) (g : Nat) : Int32 := if okN t g then nI t.2.2.2 else -1
theorem nn_eq {t : TS} {g : Nat} (hg : g < 1000) : (t.2.2.1 = 2 ∧ ¬ nI g < nI (min 1000 t.2.2.2)) ↔ okN t g := by
  constructor
  · rintro ⟨h1, h2⟩
    refine ⟨h1, ?_⟩
    rcases Nat.lt_or_ge g t.2.2.2 with q | q
    · exact absurd ((nI_ltI (by omega) (by omega)).mpr (by omega)) h2
    · exact q
  · rintro ⟨h1, h2⟩
    exact ⟨h1, fun z => by have := (nI_ltI (by omega) (by omega)).mp z; omega⟩
theorem nn_v {t : TS} {g : Nat} (hg : g < 1000) (h : okN t g) : nI (min 1000 t.2.2.2) = nI t.2.2.2 := by congr 1; have := h.2; omega
theorem nn_ge {t : TS} {g : Nat} (hg : g < 1000) : 0 ≤ nnR t g ↔ okN t g := by
  unfold nnR
  by_cases q : okN t g
  · rw [if_pos q]; exact ⟨fun _ => q, fun _ => nI_pos' (by have := q.2; omega)⟩
  · rw [if_neg q]; exact ⟨fun z => absurd z (by decide), fun z => absurd z q⟩

set_option maxHeartbeats 4000000 in
set_option maxRecDepth 20000 in
theorem c_nextNumber (l : Launch) (G : GG) {ζ σ : Sg} {L : Nat} {t : TS} {w : Nat → Int32} (hz : tpP ζ L) (h : rdW ζ σ L t w) {g : Nat} (hg : g < 1000) : CpI l G mX0_nextNumber 2 shT [.ref (ad G 54), .int (nI g)] σ (nnR (nx (ζ 53) L t) g) (fun τ => rdW ζ τ L (nx (ζ 53) L t) w) := by
  refine ct_intro (by decide) (Nat.le_of_ble_eq_true rfl) (fun X B R => ?_)
  show V X G shT σ [some (.ref (ad G 54)), some (.int (nI g))] [] 0
  refine r_aload_n (pc := 0) B dX0_nextNumber_0 rfl ?_
  refine r_cVpv0 (pc := 1) B KX0_28 (c_rdT l G hz h) rfl rfl (by decide) (Nat.le_of_ble_eq_true rfl) dX0_nextNumber_1 (fun ρ hr => ?_)
  refine r_aload_n (pc := 4) B dX0_nextNumber_4 rfl ?_
  refine r_geti (pc := 5) B FX0_18 rfl rfl dX0_nextNumber_5 ?_
  rw [hr.1.2.2.1]
  refine r_iconst (pc := 8) (x := 2) B dX0_nextNumber_8 (by decide) ?_
  refine r_icmp_ne (pc := 9) B 27 dX0_nextNumber_9 (by decide) (fun h9 => ?_) (fun h9 => ?_)
  · skip
    refine r_iconst (pc := 27) (x := (-1)) B dX0_nextNumber_27 (by decide) ?_
    exact r_iret (pc := 28) B R dX0_nextNumber_28 ⟨by first | (have hk := (nn_eq (t := nx (ζ 53) L t) hg).mp ⟨h9, h17⟩; rw [nnR, if_pos hk, nn_v hg hk]) | rw [nnR, if_neg (fun z => h9 z.1)] | rw [nnR, if_neg (fun z => ((nn_eq (t := nx (ζ 53) L t) hg).mpr z).2 h17)], hr⟩
  · skip
    refine r_aload_n (pc := 12) B dX0_nextNumber_12 rfl ?_
    refine r_geti (pc := 13) B FX0_21 rfl rfl dX0_nextNumber_13 ?_
    rw [hr.1.2.2.2]
    refine r_iload_n (pc := 16) B dX0_nextNumber_16 rfl ?_
    refine r_icmp_gt (pc := 17) B 27 dX0_nextNumber_17 (by decide) (fun h17 => ?_) (fun h17 => ?_)
    · skip
      refine r_iconst (pc := 27) (x := (-1)) B dX0_nextNumber_27 (by decide) ?_
      exact r_iret (pc := 28) B R dX0_nextNumber_28 ⟨by first | (have hk := (nn_eq (t := nx (ζ 53) L t) hg).mp ⟨h9, h17⟩; rw [nnR, if_pos hk, nn_v hg hk]) | rw [nnR, if_neg (fun z => h9 z.1)] | rw [nnR, if_neg (fun z => ((nn_eq (t := nx (ζ 53) L t) hg).mpr z).2 h17)], hr⟩
    · skip
      refine r_aload_n (pc := 20) B dX0_nextNumber_20 rfl ?_
      refine r_geti (pc := 21) B FX0_21 rfl rfl dX0_nextNumber_21 ?_
      rw [hr.1.2.2.2]
      refine r_goto (pc := 24) B 28 dX0_nextNumber_24 (by decide) ?_
      exact r_iret (pc := 28) B R dX0_nextNumber_28 ⟨by first | (have hk := (nn_eq (t := nx (ζ 53) L t) hg).mp ⟨h9, h17⟩; rw [nnR, if_pos hk, nn_v hg hk]) | rw [nnR, if_neg (fun z => h9 z.1)] | rw [nnR, if_neg (fun z => ((nn_eq (t := nx (ζ 53) L t) hg).mpr z).2 h17)], hr⟩
set_option maxHeartbeats 4000000 in
set_option maxRecDepth 20000 in
theorem c_wordOfKind (l : Launch) (G : GG) (T : List Sh) (σ : Sg) {a : Nat} (ha : a < 7) : CtA l G mX0_wordOfKind 0 T [.int (nI a)] σ (G.2.2.2.1 (kS a)) σ := by
  refine ct_intro (by decide) (Nat.le_of_ble_eq_true rfl) (fun X B R => ?_)
  show V X G T σ [some (.int (nI a))] [] 0
  refine r_iload_n (pc := 0) B dX0_wordOfKind_0 rfl ?_
  refine r_tsC (pc := 1) B 1 40 dX0_wordOfKind_1 (by decide) (by decide) rfl (by decide) (fun h1_1 => ?_) (fun h1_1 => ?_)
  · skip
    refine r_ldcS (pc := 40) B 0 rfl dX0_wordOfKind_40 ?_
    exact r_aret (pc := 42) B R dX0_wordOfKind_42 ⟨by rw [show kS a = 0 by rw [nI_is h1_1 (c := 1) rfl (by omega) (by decide)]; rfl], rfl⟩
  refine r_tsC (pc := 1) B 2 43 dX0_wordOfKind_1 (by decide) (by decide) rfl (by decide) (fun h1_2 => ?_) (fun h1_2 => ?_)
  · skip
    refine r_ldcS (pc := 43) B 1 rfl dX0_wordOfKind_43 ?_
    exact r_aret (pc := 45) B R dX0_wordOfKind_45 ⟨by rw [show kS a = 1 by rw [nI_is h1_2 (c := 2) rfl (by omega) (by decide)]; rfl], rfl⟩
  refine r_tsC (pc := 1) B 3 46 dX0_wordOfKind_1 (by decide) (by decide) rfl (by decide) (fun h1_3 => ?_) (fun h1_3 => ?_)
  · skip
    refine r_ldcS (pc := 46) B 2 rfl dX0_wordOfKind_46 ?_
    exact r_aret (pc := 48) B R dX0_wordOfKind_48 ⟨by rw [show kS a = 2 by rw [nI_is h1_3 (c := 3) rfl (by omega) (by decide)]; rfl], rfl⟩
  refine r_tsC (pc := 1) B 4 49 dX0_wordOfKind_1 (by decide) (by decide) rfl (by decide) (fun h1_4 => ?_) (fun h1_4 => ?_)
  · skip
    refine r_ldcS (pc := 49) B 3 rfl dX0_wordOfKind_49 ?_
    exact r_aret (pc := 51) B R dX0_wordOfKind_51 ⟨by rw [show kS a = 3 by rw [nI_is h1_4 (c := 4) rfl (by omega) (by decide)]; rfl], rfl⟩
  refine r_tsC (pc := 1) B 5 52 dX0_wordOfKind_1 (by decide) (by decide) rfl (by decide) (fun h1_5 => ?_) (fun h1_5 => ?_)
  · skip
    refine r_ldcS (pc := 52) B 4 rfl dX0_wordOfKind_52 ?_
    exact r_aret (pc := 54) B R dX0_wordOfKind_54 ⟨by rw [show kS a = 4 by rw [nI_is h1_5 (c := 5) rfl (by omega) (by decide)]; rfl], rfl⟩
  refine r_tsC (pc := 1) B 6 55 dX0_wordOfKind_1 (by decide) (by decide) rfl (by decide) (fun h1_6 => ?_) (fun h1_6 => ?_)
  · skip
    refine r_ldcS (pc := 55) B 5 rfl dX0_wordOfKind_55 ?_
    exact r_aret (pc := 57) B R dX0_wordOfKind_57 ⟨by rw [show kS a = 5 by rw [nI_is h1_6 (c := 6) rfl (by omega) (by decide)]; rfl], rfl⟩
  refine r_tsD (pc := 1) B 58 dX0_wordOfKind_1 (by have e0 := ts_in (c := 1) h1_1 rfl; have e1 := ts_in (c := 2) h1_2 rfl; have e2 := ts_in (c := 3) h1_3 rfl; have e3 := ts_in (c := 4) h1_4 rfl; have e4 := ts_in (c := 5) h1_5 rfl; have e5 := ts_in (c := 6) h1_6 rfl; omega) (by decide) ?_
  refine r_ldcS (pc := 58) B 6 rfl dX0_wordOfKind_58 ?_
  exact r_aret (pc := 60) B R dX0_wordOfKind_60 ⟨by rw [show kS a = 6 by have n1 := nI_nis (c := 1) h1_1 rfl; have n2 := nI_nis (c := 2) h1_2 rfl; have n3 := nI_nis (c := 3) h1_3 rfl; have n4 := nI_nis (c := 4) h1_4 rfl; have n5 := nI_nis (c := 5) h1_5 rfl; have n6 := nI_nis (c := 6) h1_6 rfl; rw [show a = 0 by omega]; rfl], rfl⟩
set_option maxHeartbeats 4000000 in
set_option maxRecDepth 20000 in
theorem c_wordOfFrom (l : Launch) (G : GG) (T : List Sh) (σ : Sg) {a : Nat} (ha : a < 3) : CtA l G mX0_wordOfFrom 0 T [.int (nI a)] σ (G.2.2.2.1 (11 + a)) σ := by
  refine ct_intro (by decide) (Nat.le_of_ble_eq_true rfl) (fun X B R => ?_)
  show V X G T σ [some (.int (nI a))] [] 0
  refine r_iload_n (pc := 0) B dX0_wordOfFrom_0 rfl ?_
  match a, ha with
  | 0, _ =>
    refine r_lsw (pc := 1) (off := 27) B 28 dX0_wordOfFrom_1 (by decide) (by decide) (by decide) ?_
    refine r_ldcS (pc := 28) B 11 rfl dX0_wordOfFrom_28 ?_
    exact r_aret (pc := 30) B R dX0_wordOfFrom_30 ⟨rfl, rfl⟩
  | 1, _ =>
    refine r_lsw (pc := 1) (off := 30) B 31 dX0_wordOfFrom_1 (by decide) (by decide) (by decide) ?_
    refine r_ldcS (pc := 31) B 12 rfl dX0_wordOfFrom_31 ?_
    exact r_aret (pc := 33) B R dX0_wordOfFrom_33 ⟨rfl, rfl⟩
  | 2, _ =>
    refine r_lsw (pc := 1) (off := 33) B 34 dX0_wordOfFrom_1 (by decide) (by decide) (by decide) ?_
    refine r_ldcS (pc := 34) B 13 rfl dX0_wordOfFrom_34 ?_
    exact r_aret (pc := 36) B R dX0_wordOfFrom_36 ⟨rfl, rfl⟩
  | n + 3, h => omega

set_option maxHeartbeats 4000000 in
set_option maxRecDepth 20000 in
theorem c_isWord (l : Launch) (G : GG) {ζ σ : Sg} {L : Nat} {t : TS} {w : Nat → Int32} (hz : tpP ζ L) (h : rdW ζ σ L t w) {i : Nat} (hi : i < 18) : CtI l G mX0_isWord 4 shT [.ref (ad G 54), .ref (G.2.2.2.1 i)] σ (bI (wdP (ζ 53) L t i)) σ := by
  obtain ⟨h1, h2, h3, h4⟩ := h.1
  have hle := h.2.2.2
  have h120 := hz.1
  have h8 := sL_le i hi
  have htp := h.tp hz
  refine ct_intro (by decide) (Nat.le_of_ble_eq_true rfl) (fun X B R => ?_)
  show V X G shT σ [some (.ref (ad G 54)), some (.ref (G.2.2.2.1 i)), none] [] 0
  refine r_aload_n (pc := 0) B dX0_isWord_0 rfl ?_
  refine r_geti (pc := 1) B FX0_18 rfl rfl dX0_isWord_1 ?_
  rw [h3]
  refine r_iconst (pc := 4) (x := 1) B dX0_isWord_4 (by decide) ?_
  refine r_icmp_ne (pc := 5) B 24 dX0_isWord_5 (by decide) (fun h5 => ?_) (fun h5 => ?_)
  · refine r_iconst (pc := 24) (x := 0) B dX0_isWord_24 (by decide) ?_
    exact r_zret (pc := 25) B R (by decide) dX0_isWord_25 ⟨by rw [← bI_f (p := wdP (ζ 53) L t i) (fun z => h5 z.1)], rfl⟩
  · refine r_aload_n (pc := 8) B dX0_isWord_8 rfl ?_
    refine r_cVsi0 (pc := 9) B hi KX0_130 rfl (c_strLen l G _ _ hi) (by decide) (Nat.le_of_ble_eq_true rfl) dX0_isWord_9 ?_
    refine r_aload_n (pc := 12) B dX0_isWord_12 rfl ?_
    refine r_geti (pc := 13) B FX0_15 rfl rfl dX0_isWord_13 ?_
    rw [h2]
    refine r_aload_n (pc := 16) B dX0_isWord_16 rfl ?_
    refine r_geti (pc := 17) B FX0_9 rfl rfl dX0_isWord_17 ?_
    rw [h1]
    refine r_isub (pc := 20) B dX0_isWord_20 ?_
    rw [pk_sub hle.1]
    refine r_icmp_eq (pc := 21) B 26 dX0_isWord_21 (by decide) (fun h21 => ?_) (fun h21 => ?_)
    · have hlen : t.2.1 - t.1 = sL.getD i 0 := ((nI_eq (by omega) (by omega)).mp h21).symm
      refine r_iconst (pc := 26) (x := 0) B dX0_isWord_26 (by decide) ?_
      refine r_istore_2 (pc := 27) B dX0_isWord_27 (by decide) rfl ?_
      have hL28 : ∀ (n j : Nat), j + n = sL.getD i 0 → (∀ q, q < j → (sB.getD i []).getD q 0 = bA (ζ 53) L (t.1 + q)) → V X G shT σ [some (.ref (ad G 54)), some (.ref (G.2.2.2.1 i)), some (.int (nI j))] [] 28 := by
        intro n
        induction n with
        | zero =>
          intro j hj hq
          have ej : j = sL.getD i 0 := by omega
          refine r_iload_n (pc := 28) B dX0_isWord_28 rfl ?_
          refine r_aload_n (pc := 29) B dX0_isWord_29 rfl ?_
          refine r_cVsi0 (pc := 30) B hi KX0_130 rfl (c_strLen l G _ _ hi) (by decide) (Nat.le_of_ble_eq_true rfl) dX0_isWord_30 ?_
          refine r_icmp_ge (pc := 33) B 65 dX0_isWord_33 (by decide) (fun h33 => ?_) (fun h33 => absurd (by rw [ej]; exact (nI_leI (by omega) (by omega)).mpr (Nat.le_refl _)) h33)
          refine r_iconst (pc := 65) (x := 1) B dX0_isWord_65 (by decide) ?_
          exact r_zret (pc := 66) B R (by decide) dX0_isWord_66 ⟨by rw [← bI_t (p := wdP (ζ 53) L t i) ⟨h5, hlen, by rw [← ej]; exact hq⟩], rfl⟩
        | succ n ih =>
          intro j hj hq
          refine r_iload_n (pc := 28) B dX0_isWord_28 rfl ?_
          refine r_aload_n (pc := 29) B dX0_isWord_29 rfl ?_
          refine r_cVsi0 (pc := 30) B hi KX0_130 rfl (c_strLen l G _ _ hi) (by decide) (Nat.le_of_ble_eq_true rfl) dX0_isWord_30 ?_
          refine r_icmp_ge (pc := 33) B 65 dX0_isWord_33 (by decide) (fun h33 => absurd ((nI_leI (a := sL.getD i 0) (b := j) (by omega) (by omega)).mp h33) (by omega)) (fun h33 => ?_)
          refine r_aload_n (pc := 36) B dX0_isWord_36 rfl ?_
          refine r_iload_n (pc := 37) B dX0_isWord_37 rfl ?_
          refine r_cVsi1 (pc := 38) B hi KX0_136 rfl (c_charAt l G _ _ hi (by omega)) (by decide) (Nat.le_of_ble_eq_true rfl) dX0_isWord_38 ?_
          rw [chS_eq i hi j (by omega)]
          refine r_aload_n (pc := 41) B dX0_isWord_41 rfl ?_
          refine r_getr (pc := 42) B FX0_24 rfl rfl dX0_isWord_42 ?_
          refine r_aload_n (pc := 45) B dX0_isWord_45 rfl ?_
          refine r_geti (pc := 46) B FX0_9 rfl rfl dX0_isWord_46 ?_
          rw [h1]
          refine r_iload_n (pc := 49) B dX0_isWord_49 rfl ?_
          refine r_iadd (pc := 50) B dX0_isWord_50 ?_
          rw [nI_add]
          refine r_cVi1 (pc := 51) B KX0_140 (c_byteAt l G _ _ hz.1 htp.2) rfl rfl (by decide) (Nat.le_of_ble_eq_true rfl) dX0_isWord_51 ?_
          rw [bt_bA hz.1 htp.2 (by omega), h.by]
          refine r_icmp_eq (pc := 54) B 59 dX0_isWord_54 (by decide) (fun h54 => ?_) (fun h54 => ?_)
          · refine r_iinc_2 (pc := 59) (y := _ + 1) B dX0_isWord_59 rfl (by decide) rfl ?_
            refine r_goto (pc := 62) B 28 dX0_isWord_62 (by decide) ?_
            rw [nI_1]
            refine ih (j + 1) (by omega) (fun q hq2 => ?_)
            by_cases e : q = j
            · rw [e]; exact h54
            · exact hq q (by omega)
          · refine r_iconst (pc := 57) (x := 0) B dX0_isWord_57 (by decide) ?_
            exact r_zret (pc := 58) B R (by decide) dX0_isWord_58 ⟨by rw [← bI_f (p := wdP (ζ 53) L t i) (fun z => h54 (z.2.2 j (by omega)))], rfl⟩
      exact hL28 _ 0 (Nat.zero_add _) (fun q hq => absurd hq (by omega))
    · refine r_iconst (pc := 24) (x := 0) B dX0_isWord_24 (by decide) ?_
      exact r_zret (pc := 25) B R (by decide) dX0_isWord_25 ⟨by rw [← bI_f (p := wdP (ζ 53) L t i) (fun z => h21 (by rw [z.2.1]))], rfl⟩

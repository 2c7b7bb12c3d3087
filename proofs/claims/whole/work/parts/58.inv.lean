/-! component and reference side by side: what holds between two calls of the law -/
theorem arr_cg {c : ClassId} {n : Nat} {f g : Nat → Int32} (h : ∀ i, i < n → f i = g i) : vp_cell c (n, .inl f) = vp_cell c (n, .inl g) := by
  have e : (Array.ofFn (n := n) fun j => Value.int (f j.val)) = Array.ofFn (n := n) fun j => Value.int (g j.val) := by
    congr 1
    funext j
    rw [h j.1 j.2]
  rw [vp_cell_i, vp_cell_i]
  simp only [arrV]
  rw [e]
/-- places that an array doesn't have may be taken as one likes -/
theorem Pic.cg {G : GG} {T : List Sh} {σ σ' : Sg} {H : Heap} (hP : Pic G T σ H) (h1 : ∀ k n, T[k]? = some (ia n) → ∀ i, i < n → σ k i = σ' k i) (h2 : ∀ k o, T[k]? = some (.inl o) → σ' k = σ k) : Pic G T σ' H := by
  intro k q hq
  simp only [wl, List.getElem?_mapIdx] at hq
  cases hT : T[k]? with
  | none => rw [hT] at hq; cases hq
  | some sh =>
    rw [hT] at hq
    cases hq
    have hp := hP k _ (wl_at hT)
    rcases sh with o | n | o
    · rw [h2 k _ hT]; exact hp
    · show H[ad G k]? = some (vp_cell _ _)
      rw [← arr_cg (h1 k n hT)]
      exact hp
    · exact hp
theorem V.cg {X : CX} {G : GG} {T : List Sh} {σ σ' : Sg} {L : List (Option Value)} {st : List Value} {pc : Nat} (h1 : ∀ k n, T[k]? = some (ia n) → ∀ i, i < n → σ k i = σ' k i) (h2 : ∀ k o, T[k]? = some (.inl o) → σ' k = σ k) (h : V X G T σ' L st pc) : V X G T σ L st pc := fun H locs ls hP hS hl => h H locs ls (hP.cg h1 h2) hS hl
theorem lc_15 (j : Nat) : (lcO j).1 < 15 := by
  rcases lc_cell j with h | h
  · exact h
  · unfold lcO
    rw [if_neg (by omega), if_neg (by omega), if_neg (by omega), if_neg (by omega), if_neg (by omega), if_neg (by omega), if_neg (by omega), if_neg (by omega), if_neg (by omega)]
    exact (by decide : 6 < 15)
theorem vw_sm {W : Nat} {σ τ : Sg} (h : ∀ k, W ≤ k → k < W + 15 → τ k = σ k) : vw W τ = vw W σ := by
  funext j
  have := lc_15 j
  unfold vw
  rw [h _ (by omega) (by omega)]
/-! what holds -/
def GR (i : Nat) (w : Nat → Int32) : Prop := ∃ N t, N ≤ 8 ∧ w 0 = nI N ∧ spP w N ∧ WR w ∧ t ≤ 60 * i ∧ w 1 = nI t
theorem GR.up {i : Nat} {w : Nat → Int32} (h : GR i w) : GR (i + 1) w := by
  obtain ⟨N, t, a, b, c, d, e, f⟩ := h
  exact ⟨N, t, a, b, c, d, by omega, f⟩
def Rw (i : Nat) (σ : Sg) : Prop := (∀ j, j < 127 → σ 66 j = vw 1 σ j) ∧ GR i (vw 1 σ)
def Kp (i : Nat) (σ : Sg) : Prop := σ 65 4 = σ 0 3 ∧ (¬ σ 0 3 = 0 → (∀ j, j < 127 → σ 67 j = vw 16 σ j) ∧ GR i (vw 16 σ))
def Tp (σ : Sg) : Prop := (∃ L, L ≤ 120 ∧ σ 52 1 = nI L ∧ σ 65 7 = nI L) ∧ ∀ p, p < 120 → σ 71 p = σ 53 p ∧ ¬ σ 53 p < 0
def BT (a b : Int32) : Prop := (a = 0 ∧ b = -1) ∨ (a = b ∧ (a = 8 ∨ a = 16 ∨ a = 32))
def Shs (σ : Sg) : Prop := ∀ s, s < 4 → (∃ m, m ≤ 40 ∧ σ (57 + 2 * s) 2 = nI m ∧ σ 73 s = nI m) ∧ BT (σ (57 + 2 * s) 1) (σ 72 s) ∧ ∀ k, k < 40 → σ (58 + 2 * s) k = σ 74 (40 * s + k)
def Fds (σ : Sg) : Prop := (∀ k, k < 7 → σ 56 k = σ 70 (k + 1)) ∧ σ 70 0 = sumS (σ 56) 7
def wI (i : Nat) (σ : Sg) : Prop := Rw i σ ∧ Kp i σ ∧ Tp σ ∧ Shs σ ∧ Fds σ
def Inv (i : Nat) (σ : Sg) : Prop := wI i σ ∧ σ 66 = vw 1 σ ∧ (¬ σ 0 3 = 0 → σ 67 = vw 16 σ) ∧ σ 71 = σ 53 ∧ ∀ s, s < 4 → σ (58 + 2 * s) = nb σ s
def nz (σ : Sg) : Sg := fun k => if k = 66 then vw 1 σ else if k = 67 then (if σ 0 3 = 0 then σ 67 else vw 16 σ) else if k = 71 then σ 53 else if k = 58 then nb σ 0 else if k = 60 then nb σ 1 else if k = 62 then nb σ 2 else if k = 64 then nb σ 3 else σ k
theorem nz_ne (σ : Sg) {k : Nat} (h : k ≠ 66 ∧ k ≠ 67 ∧ k ≠ 71 ∧ k ≠ 58 ∧ k ≠ 60 ∧ k ≠ 62 ∧ k ≠ 64) : nz σ k = σ k := by
  obtain ⟨a, b, c, d, e, f, g⟩ := h
  unfold nz
  rw [if_neg a, if_neg b, if_neg c, if_neg d, if_neg e, if_neg f, if_neg g]
theorem nz_vw (σ : Sg) {W : Nat} (h : W ≤ 16) : vw W (nz σ) = vw W σ := vw_sm (fun k a b => nz_ne σ (by omega))
theorem nz_66 (σ : Sg) : nz σ 66 = vw 1 σ := rfl
theorem nz_67 {σ : Sg} (h : ¬ σ 0 3 = 0) : nz σ 67 = vw 16 σ := by
  show (if σ 0 3 = 0 then σ 67 else vw 16 σ) = _
  rw [if_neg h]
theorem nz_71 (σ : Sg) : nz σ 71 = σ 53 := rfl
theorem nz_h (σ : Sg) : ∀ s, s < 4 → nz σ (58 + 2 * s) = nb σ s
  | 0, _ => rfl
  | 1, _ => rfl
  | 2, _ => rfl
  | 3, _ => rfl
  | s + 4, h => absurd h (by omega)
theorem wI.nz {i : Nat} {σ : Sg} (h : wI i σ) : Inv i (nz σ) := by
  obtain ⟨⟨a1, a2⟩, ⟨b1, b2⟩, ⟨c1, c2⟩, d, ⟨e1, e2⟩⟩ := h
  have z0 : _root_.Jvm.Pilot.@@N@@.nz σ 0 = σ 0 := nz_ne σ (by omega)
  have z65 : _root_.Jvm.Pilot.@@N@@.nz σ 65 = σ 65 := nz_ne σ (by omega)
  have z53 : _root_.Jvm.Pilot.@@N@@.nz σ 53 = σ 53 := nz_ne σ (by omega)
  have z74 : _root_.Jvm.Pilot.@@N@@.nz σ 74 = σ 74 := nz_ne σ (by omega)
  refine ⟨⟨⟨fun j hj => ?_, ?_⟩, ⟨?_, fun hk => ⟨fun j hj => ?_, ?_⟩⟩, ⟨?_, fun p hp => ⟨?_, ?_⟩⟩, fun s hs => ⟨?_, ?_, fun k hk => ?_⟩, ?_⟩, ?_, fun hk => ?_, ?_, fun s hs => ?_⟩
  · rw [nz_66, nz_vw σ (by omega)]
  · rw [nz_vw σ (by omega)]; exact a2
  · rw [z0, z65]; exact b1
  · rw [z0] at hk; rw [nz_67 hk, nz_vw σ (by omega)]
  · rw [z0] at hk; rw [nz_vw σ (by omega)]; exact (b2 hk).2
  · rw [z65, nz_ne σ (k := 52) (by omega)]; exact c1
  · rw [nz_71, z53]
  · rw [z53]; exact (c2 p hp).2
  · rw [nz_ne σ (k := 57 + 2 * s) (by omega), nz_ne σ (k := 73) (by omega)]; exact (d s hs).1
  · rw [nz_ne σ (k := 57 + 2 * s) (by omega), nz_ne σ (k := 72) (by omega)]; exact (d s hs).2.1
  · rw [nz_h σ s hs, z74]
  · unfold Fds; rw [nz_ne σ (k := 56) (by omega), nz_ne σ (k := 70) (by omega)]; exact ⟨e1, e2⟩
  · rw [nz_66, nz_vw σ (by omega)]
  · rw [z0] at hk; rw [nz_67 hk, nz_vw σ (by omega)]
  · rw [nz_71, z53]
  · rw [nz_h σ s hs]; unfold nb; rw [z74]
theorem V.nz {X : CX} {G : GG} {σ : Sg} {L : List (Option Value)} {st : List Value} {pc i : Nat} (hI : wI i σ) (h : V X G shT (nz σ) L st pc) : V X G shT σ L st pc := by
  obtain ⟨⟨a1, a2⟩, ⟨b1, b2⟩, ⟨c1, c2⟩, d, -⟩ := hI
  refine V.cg (fun k n hk j hj => ?_) (fun k o hk => ?_) h
  · by_cases q : k ≠ 66 ∧ k ≠ 67 ∧ k ≠ 71 ∧ k ≠ 58 ∧ k ≠ 60 ∧ k ≠ 62 ∧ k ≠ 64
    · rw [nz_ne σ q]
    · have q2 : k = 66 ∨ k = 67 ∨ k = 71 ∨ k = 58 ∨ k = 60 ∨ k = 62 ∨ k = 64 := by omega
      rcases q2 with rfl | rfl | rfl | rfl | rfl | rfl | rfl
      · cases hk; rw [nz_66]; exact a1 j hj
      · cases hk
        show σ 67 j = (if σ 0 3 = 0 then σ 67 else vw 16 σ) j
        split
        · rfl
        · rename_i z; exact (b2 z).1 j hj
      · cases hk; exact (c2 j hj).1
      · cases hk; exact (d 0 (by omega)).2.2 j hj
      · cases hk; exact (d 1 (by omega)).2.2 j hj
      · cases hk; exact (d 2 (by omega)).2.2 j hj
      · cases hk; exact (d 3 (by omega)).2.2 j hj
  · by_cases q : k ≠ 66 ∧ k ≠ 67 ∧ k ≠ 71 ∧ k ≠ 58 ∧ k ≠ 60 ∧ k ≠ 62 ∧ k ≠ 64
    · exact nz_ne σ q
    · have q2 : k = 66 ∨ k = 67 ∨ k = 71 ∨ k = 58 ∨ k = 60 ∨ k = 62 ∨ k = 64 := by omega
      rcases q2 with rfl | rfl | rfl | rfl | rfl | rfl | rfl <;> cases hk
/-! a part that a call doesn't touch -/
theorem Rw.kp {i : Nat} {σ υ : Sg} (I : wI i σ) (h : ∀ k, (1 ≤ k ∧ k < 16) ∨ k = 66 → υ k = σ k) : Rw (i + 1) υ := by
  have e := vw_sm (W := 1) (σ := σ) (τ := υ) (fun k a b => h k (by omega))
  unfold Rw
  rw [e, h 66 (by omega)]
  exact ⟨I.1.1, I.1.2.up⟩
theorem Kp.kp {i : Nat} {σ υ : Sg} (I : wI i σ) (h4 : υ 65 4 = σ 65 4) (h : ∀ k, k = 0 ∨ (16 ≤ k ∧ k < 31) ∨ k = 67 → υ k = σ k) : Kp (i + 1) υ := by
  have e := vw_sm (W := 16) (σ := σ) (τ := υ) (fun k a b => h k (by omega))
  unfold Kp
  rw [e, h4, h 0 (by omega), h 67 (by omega)]
  exact ⟨I.2.1.1, fun q => ⟨(I.2.1.2 q).1, (I.2.1.2 q).2.up⟩⟩
theorem Tp.kp {i : Nat} {σ υ : Sg} (I : wI i σ) (h7 : υ 65 7 = σ 65 7) (h : ∀ k, k = 52 ∨ k = 53 ∨ k = 71 → υ k = σ k) : Tp υ := by
  unfold Tp
  rw [h7, h 52 (by omega), h 53 (by omega), h 71 (by omega)]
  exact I.2.2.1
theorem Shs.kp {i : Nat} {σ υ : Sg} (I : wI i σ) (h : ∀ k, (57 ≤ k ∧ k ≤ 64) ∨ (72 ≤ k ∧ k ≤ 74) → υ k = σ k) : Shs υ := by
  intro s hs
  rw [h (57 + 2 * s) (by omega), h (58 + 2 * s) (by omega), h 72 (by omega), h 73 (by omega), h 74 (by omega)]
  exact I.2.2.2.1 s hs
theorem Fds.kp {i : Nat} {σ υ : Sg} (I : wI i σ) (h : ∀ k, k = 56 ∨ k = 70 → υ k = σ k) : Fds υ := by
  unfold Fds
  rw [h 56 (by omega), h 70 (by omega)]
  exact I.2.2.2.2
/-- the cells that matter, but for those of p -/
def Sm (p : Nat → Prop) (σ υ : Sg) : Prop := ∀ k, ¬ p k → (k < 31 ∨ k = 52 ∨ k = 53 ∨ (55 ≤ k ∧ k ≤ 64) ∨ k = 66 ∨ k = 67 ∨ (70 ≤ k ∧ k ≤ 74)) → υ k = σ k
theorem sum_up {f g : Nat → Int32} {j : Nat} (hg : ∀ k, k ≠ j → g k = f k) (hj : g j = f j + 1) : ∀ n, sumS g n = if j < n then sumS f n + 1 else sumS f n
  | 0 => by rw [if_neg (by omega)]; rfl
  | n + 1 => by
    rw [sumS, sumS, sum_up hg hj n]
    by_cases h : j = n
    · subst h; rw [if_neg (by omega), if_pos (by omega), hj, Int32.add_assoc]
    · rw [hg n (by omega)]
      by_cases h2 : j < n
      · rw [if_pos h2, if_pos (by omega), Int32.add_assoc, Int32.add_comm 1 (f n), ← Int32.add_assoc]
      · rw [if_neg h2, if_neg (by omega)]
theorem fnd_56 {σ : Sg} {j : Nat} (k : Nat) : fnd σ j 56 k = if k = j then σ 56 j + 1 else σ 56 k := by
  unfold fnd st2; rw [if_pos rfl]
theorem fnd_ne {σ : Sg} {j k : Nat} (h : k ≠ 56) : fnd σ j k = σ k := st2_cl _ _ _ _ h
theorem fnR_ne {σ : Sg} {j k : Nat} (h : k ≠ 70) : fnR σ j k = σ k := by unfold fnR; rw [st2_cl _ _ _ _ h, st2_cl _ _ _ _ h]
theorem fnR_0 {σ : Sg} {j : Nat} : fnR σ j 70 0 = σ 70 0 + 1 := by simp [fnR, st2]
theorem fnR_s {σ : Sg} {j k : Nat} : fnR σ j 70 (k + 1) = if k = j then σ 70 (j + 1) + 1 else σ 70 (k + 1) := by
  by_cases h : k = j
  · subst h; simp [fnR, st2]
  · simp [fnR, st2, h]
/-- a finding on both sides, behind walks -/
theorem o_fw {i j : Nat} {σ ρ ρ2 : Sg} (I : wI i σ) (hj : j < 7) (h1 : wkO σ ρ) (h2 : ro (fnd ρ j) ρ2) : wI (i + 1) (fnR ρ2 j) := by
  have hk : ∀ k, k < 47 ∨ 52 ≤ k → k ≠ 56 → k ≠ 65 → k ≠ 69 → k ≠ 70 → fnR ρ2 j k = σ k := fun k a b c d e => by rw [fnR_ne e, h2.1 k c d, fnd_ne b, h1 k a]
  have h65 : ∀ n, n < 11 → fnR ρ2 j 65 n = σ 65 n := fun n hn => by rw [fnR_ne (by omega), h2.2 n hn, fnd_ne (by omega), h1 65 (by omega)]
  have h70 : ρ2 70 = σ 70 := by rw [h2.1 70 (by omega) (by omega), fnd_ne (by omega), h1 70 (by omega)]
  have h56 : ρ 56 = σ 56 := h1 56 (by omega)
  have e56 : fnR ρ2 j 56 = fnd ρ j 56 := by rw [fnR_ne (by omega), h2.1 56 (by omega) (by omega)]
  refine ⟨Rw.kp I (fun k q => hk k (by omega) (by omega) (by omega) (by omega) (by omega)), Kp.kp I (h65 4 (by omega)) (fun k q => hk k (by omega) (by omega) (by omega) (by omega) (by omega)), Tp.kp I (h65 7 (by omega)) (fun k q => hk k (by omega) (by omega) (by omega) (by omega) (by omega)), Shs.kp I (fun k q => hk k (by omega) (by omega) (by omega) (by omega) (by omega)), fun k hk => ?_, ?_⟩
  · rw [e56, fnd_56, fnR_s, h56, h70, I.2.2.2.2.1 k hk, I.2.2.2.2.1 j hj]
  · rw [fnR_0, h70, e56, sum_up (f := σ 56) (j := j) (fun k hk => by rw [fnd_56, if_neg hk, h56]) (by rw [fnd_56, if_pos rfl, h56]) 7, if_pos hj, I.2.2.2.2.2]
theorem o_fq {i j : Nat} {σ : Sg} (I : wI i σ) (hj : j < 7) : wI (i + 1) (fnR (fnd σ j) j) := o_fw I hj (wkO.rf σ) (ro.rf _)
/-- walks on both sides -/
theorem o_wk {i : Nat} {σ τ υ : Sg} (I : wI i σ) (h1 : wkO σ τ) (h2 : ro τ υ) : wI (i + 1) υ := by
  have hk : ∀ k, k < 47 ∨ 52 ≤ k → k ≠ 65 → k ≠ 69 → υ k = σ k := fun k a b c => by rw [h2.1 k b c, h1 k a]
  have h65 : ∀ n, n < 11 → υ 65 n = σ 65 n := fun n hn => by rw [h2.2 n hn, h1 65 (by omega)]
  exact ⟨Rw.kp I (fun k q => hk k (by omega) (by omega) (by omega)), Kp.kp I (h65 4 (by omega)) (fun k q => hk k (by omega) (by omega) (by omega)), Tp.kp I (h65 7 (by omega)) (fun k q => hk k (by omega) (by omega) (by omega)), Shs.kp I (fun k q => hk k (by omega) (by omega) (by omega)), Fds.kp I (fun k q => hk k (by omega) (by omega) (by omega))⟩
theorem o_id {i : Nat} {σ : Sg} (I : wI i σ) : wI (i + 1) σ := o_wk I (wkO.rf σ) (ro.rf σ)
/-- a new row on both sides -/
theorem o_row {i : Nat} {σ τ : Sg} {w x : Nat → Int32} (I : wI i σ) (h : isWr 1 σ τ w) (e : ∀ j, j < 127 → x j = w j) (g : GR (i + 1) (vw 1 τ)) : wI (i + 1) (sR τ x) := by
  have hk : ∀ k, k = 0 ∨ 16 ≤ k → k ≠ 66 → sR τ x k = σ k := fun k a b => by
    show (if k = 66 then x else τ k) = σ k
    rw [if_neg b, h.2 k (by omega)]
  have h65 : sR τ x 65 = σ 65 := hk 65 (by omega) (by omega)
  have ev : vw 1 (sR τ x) = vw 1 τ := vw_sm (fun k a b => by show (if k = 66 then x else τ k) = τ k; rw [if_neg (by omega)])
  refine ⟨⟨fun j hj => ?_, ?_⟩, Kp.kp I (by rw [h65]) (fun k q => hk k (by omega) (by omega)), Tp.kp I (by rw [h65]) (fun k q => hk k (by omega) (by omega)), Shs.kp I (fun k q => hk k (by omega) (by omega)), Fds.kp I (fun k q => hk k (by omega) (by omega))⟩
  · rw [ev, h.1 j hj]; exact e j hj
  · rw [ev]; exact g
/-- ranges of a row, by places -/
theorem GR.cg {i : Nat} {w x : Nat → Int32} (h : GR i w) (e : ∀ j, j < 127 → x j = w j) : GR i x := by
  obtain ⟨N, t, a, b, c, d, f, g⟩ := h
  refine ⟨N, t, a, by rw [e 0 (by omega)]; exact b, fun s hs => by rw [e _ (by omega)]; exact c s hs, ⟨by rw [e 3 (by omega)]; exact d.1, by rw [e 4 (by omega)]; exact d.2.1, fun k hk => ?_, fun u n hu hn => by rw [e _ (by omega)]; exact d.2.2.2 u n hu hn⟩, f, by rw [e 1 (by omega)]; exact g⟩
  rw [e _ (by omega), e _ (by omega), e _ (by omega)]
  exact d.2.2.1 k hk
/-- both answer alike, and all still holds -/
def Pr (l : Launch) (G : GG) (i : Nat) (σ : Sg) (M : MR) (d : Nat) (M' : MR) (d' : Nat) (as : List Value) : Prop := Ct l G M d shT (.ref (ad G 0) :: as) σ (fun r τ => ∃ v, r = some (.int v) ∧ Ct l G M' d' shT (.ref (ad G 65) :: as) τ (fun r' υ => r' = some (.int v) ∧ wI (i + 1) υ))
def PrL (l : Launch) (G : GG) (i : Nat) (σ : Sg) (M : MR) (d : Nat) (M' : MR) (d' : Nat) (as : List Value) : Prop := Ct l G M d shT (.ref (ad G 0) :: as) σ (fun r τ => ∃ v, r = some (.long v) ∧ Ct l G M' d' shT (.ref (ad G 65) :: as) τ (fun r' υ => r' = some (.long v) ∧ wI (i + 1) υ))
theorem um_in {a x : Int32} {N u : Nat} (hN : a = nI N) (hN8 : N ≤ 8) (hu : u < N) (hx : x = nI u) : ¬ x < 0 ∧ ¬ a ≤ x := by
  subst hN hx
  exact ⟨nI_pos (by omega), fun q => by have := (nI_leI (by omega) (by omega)).mp q; omega⟩
theorem nI_u {x : Int32} {a b : Nat} (ha : x = nI a) (hb : x = nI b) (h1 : a < 1000) (h2 : b < 1000) : a = b := (nI_eq (by omega) (by omega)).mp (ha.symm.trans hb)
theorem wi_in {x : Int32} {g k : Nat} (hx : x = nI k) (h : k ≤ g) (hg : g < 2 ^ 31) : withinP x (nI g) := by rw [hx]; exact nI_wi hg h
theorem st_i {x : Int32} {j : Nat} (hx : x = nI j) (h : j < 16) : stepP x := by rw [hx]; exact nI_stepP h
theorem sh_i {x : Int32} {j : Nat} (hx : x = nI j) (h : j < 4) : shP x := by rw [hx]; exact ⟨nI_pos (by omega), fun q => by have := (nI_leI (a := 4) (by omega) (by omega)).mp q; omega⟩

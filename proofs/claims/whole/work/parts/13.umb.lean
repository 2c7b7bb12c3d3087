/-! small static tests -/
abbrev stepP (x : Int32) : Prop := ¬ x < 0 ∧ ¬ 16 ≤ x
abbrev withinP (v g : Int32) : Prop := ¬ v < 0 ∧ ¬ g < v
section RB
variable {l : Launch} {X : CX} {G : GG} {T : List Sh} {σ : Sg} {L : List (Option Value)} {st : List Value} {pc : Nat} {b : ByteArray} {own : String} {nL D : Nat}
theorem r_mx (B : Bd l X G b own nL D) {idx : Nat} {x y : Int32} (w : Cond.methodLink own idx Lib.Math.max.name ∈ lwg) (hw : Cond.static Lib.Math.max.name ∈ lwg ∧ Cond.initialized "java/lang/Math" ∈ lwg ∧ Cond.code Lib.Math.max.name Lib.Math.max.code 2 (some .int) ∈ lwg) (hD : 1 ≤ D) (hs : sm st ≤ 8) (d : decode b pc = .ok (.invokestatic idx, 3)) (kk : V X G T σ L (.int (mx x y) :: st) (pc + 3)) : V X G T σ L (.int y :: .int x :: st) pc := r_max B w hw hD hs d kk
theorem r_mn (B : Bd l X G b own nL D) {idx : Nat} {x y : Int32} (w : Cond.methodLink own idx Lib.Math.min.name ∈ lwg) (hw : Cond.static Lib.Math.min.name ∈ lwg ∧ Cond.initialized "java/lang/Math" ∈ lwg ∧ Cond.code Lib.Math.min.name Lib.Math.min.code 2 (some .int) ∈ lwg) (hD : 1 ≤ D) (hs : sm st ≤ 8) (d : decode b pc = .ok (.invokestatic idx, 3)) (kk : V X G T σ L (.int (mn x y) :: st) (pc + 3)) : V X G T σ L (.int y :: .int x :: st) pc := r_min B w hw hD hs d kk
theorem r_bz_if_eq (B : Bd l X G b own nL D) {x : Int32} (d : decode b pc = .ok (.ifCond .eq 7, 3)) (d1 : decode b (pc + 3) = .ok (.iconst 1, 1)) (d2 : decode b (pc + 4) = .ok (.goto 4, 3)) (d3 : decode b (pc + 7) = .ok (.iconst 0, 1)) (k : V X G T σ L (.int (bI (¬ x = 0)) :: st) (pc + 8)) : V X G T σ L (.int x :: st) pc := by
  refine r_if_eq B (pc + 7) d (by omega) (fun h => ?_) (fun h => ?_)
  · refine r_iconst (x := 0) B d3 (by decide) ?_
    rw [bI_f (p := ¬ x = 0) (by exact fun q => q h)]
    exact k
  · refine r_iconst (x := 1) B d1 (by decide) ?_
    refine r_goto B (pc + 8) d2 (by omega) ?_
    rw [bI_t (p := ¬ x = 0) h]
    exact k
theorem r_bz_if_ne (B : Bd l X G b own nL D) {x : Int32} (d : decode b pc = .ok (.ifCond .ne 7, 3)) (d1 : decode b (pc + 3) = .ok (.iconst 1, 1)) (d2 : decode b (pc + 4) = .ok (.goto 4, 3)) (d3 : decode b (pc + 7) = .ok (.iconst 0, 1)) (k : V X G T σ L (.int (bI (x = 0)) :: st) (pc + 8)) : V X G T σ L (.int x :: st) pc := by
  refine r_if_ne B (pc + 7) d (by omega) (fun h => ?_) (fun h => ?_)
  · refine r_iconst (x := 0) B d3 (by decide) ?_
    rw [bI_f (p := x = 0) (by exact h)]
    exact k
  · refine r_iconst (x := 1) B d1 (by decide) ?_
    refine r_goto B (pc + 8) d2 (by omega) ?_
    rw [bI_t (p := x = 0) h]
    exact k
theorem r_bz_if_lt (B : Bd l X G b own nL D) {x : Int32} (d : decode b pc = .ok (.ifCond .lt 7, 3)) (d1 : decode b (pc + 3) = .ok (.iconst 1, 1)) (d2 : decode b (pc + 4) = .ok (.goto 4, 3)) (d3 : decode b (pc + 7) = .ok (.iconst 0, 1)) (k : V X G T σ L (.int (bI (¬ x < 0)) :: st) (pc + 8)) : V X G T σ L (.int x :: st) pc := by
  refine r_if_lt B (pc + 7) d (by omega) (fun h => ?_) (fun h => ?_)
  · refine r_iconst (x := 0) B d3 (by decide) ?_
    rw [bI_f (p := ¬ x < 0) (by exact fun q => q h)]
    exact k
  · refine r_iconst (x := 1) B d1 (by decide) ?_
    refine r_goto B (pc + 8) d2 (by omega) ?_
    rw [bI_t (p := ¬ x < 0) h]
    exact k
theorem r_bz_if_ge (B : Bd l X G b own nL D) {x : Int32} (d : decode b pc = .ok (.ifCond .ge 7, 3)) (d1 : decode b (pc + 3) = .ok (.iconst 1, 1)) (d2 : decode b (pc + 4) = .ok (.goto 4, 3)) (d3 : decode b (pc + 7) = .ok (.iconst 0, 1)) (k : V X G T σ L (.int (bI (¬ 0 ≤ x)) :: st) (pc + 8)) : V X G T σ L (.int x :: st) pc := by
  refine r_if_ge B (pc + 7) d (by omega) (fun h => ?_) (fun h => ?_)
  · refine r_iconst (x := 0) B d3 (by decide) ?_
    rw [bI_f (p := ¬ 0 ≤ x) (by exact fun q => q h)]
    exact k
  · refine r_iconst (x := 1) B d1 (by decide) ?_
    refine r_goto B (pc + 8) d2 (by omega) ?_
    rw [bI_t (p := ¬ 0 ≤ x) h]
    exact k
theorem r_bz_if_gt (B : Bd l X G b own nL D) {x : Int32} (d : decode b pc = .ok (.ifCond .gt 7, 3)) (d1 : decode b (pc + 3) = .ok (.iconst 1, 1)) (d2 : decode b (pc + 4) = .ok (.goto 4, 3)) (d3 : decode b (pc + 7) = .ok (.iconst 0, 1)) (k : V X G T σ L (.int (bI (¬ 0 < x)) :: st) (pc + 8)) : V X G T σ L (.int x :: st) pc := by
  refine r_if_gt B (pc + 7) d (by omega) (fun h => ?_) (fun h => ?_)
  · refine r_iconst (x := 0) B d3 (by decide) ?_
    rw [bI_f (p := ¬ 0 < x) (by exact fun q => q h)]
    exact k
  · refine r_iconst (x := 1) B d1 (by decide) ?_
    refine r_goto B (pc + 8) d2 (by omega) ?_
    rw [bI_t (p := ¬ 0 < x) h]
    exact k
theorem r_bz_if_le (B : Bd l X G b own nL D) {x : Int32} (d : decode b pc = .ok (.ifCond .le 7, 3)) (d1 : decode b (pc + 3) = .ok (.iconst 1, 1)) (d2 : decode b (pc + 4) = .ok (.goto 4, 3)) (d3 : decode b (pc + 7) = .ok (.iconst 0, 1)) (k : V X G T σ L (.int (bI (¬ x ≤ 0)) :: st) (pc + 8)) : V X G T σ L (.int x :: st) pc := by
  refine r_if_le B (pc + 7) d (by omega) (fun h => ?_) (fun h => ?_)
  · refine r_iconst (x := 0) B d3 (by decide) ?_
    rw [bI_f (p := ¬ x ≤ 0) (by exact fun q => q h)]
    exact k
  · refine r_iconst (x := 1) B d1 (by decide) ?_
    refine r_goto B (pc + 8) d2 (by omega) ?_
    rw [bI_t (p := ¬ x ≤ 0) h]
    exact k
theorem r_bz_icmp_eq (B : Bd l X G b own nL D) {x y : Int32} (d : decode b pc = .ok (.if_icmp .eq 7, 3)) (d1 : decode b (pc + 3) = .ok (.iconst 1, 1)) (d2 : decode b (pc + 4) = .ok (.goto 4, 3)) (d3 : decode b (pc + 7) = .ok (.iconst 0, 1)) (k : V X G T σ L (.int (bI (¬ x = y)) :: st) (pc + 8)) : V X G T σ L (.int y :: .int x :: st) pc := by
  refine r_icmp_eq B (pc + 7) d (by omega) (fun h => ?_) (fun h => ?_)
  · refine r_iconst (x := 0) B d3 (by decide) ?_
    rw [bI_f (p := ¬ x = y) (by exact fun q => q h)]
    exact k
  · refine r_iconst (x := 1) B d1 (by decide) ?_
    refine r_goto B (pc + 8) d2 (by omega) ?_
    rw [bI_t (p := ¬ x = y) h]
    exact k
theorem r_bz_icmp_ne (B : Bd l X G b own nL D) {x y : Int32} (d : decode b pc = .ok (.if_icmp .ne 7, 3)) (d1 : decode b (pc + 3) = .ok (.iconst 1, 1)) (d2 : decode b (pc + 4) = .ok (.goto 4, 3)) (d3 : decode b (pc + 7) = .ok (.iconst 0, 1)) (k : V X G T σ L (.int (bI (x = y)) :: st) (pc + 8)) : V X G T σ L (.int y :: .int x :: st) pc := by
  refine r_icmp_ne B (pc + 7) d (by omega) (fun h => ?_) (fun h => ?_)
  · refine r_iconst (x := 0) B d3 (by decide) ?_
    rw [bI_f (p := x = y) (by exact h)]
    exact k
  · refine r_iconst (x := 1) B d1 (by decide) ?_
    refine r_goto B (pc + 8) d2 (by omega) ?_
    rw [bI_t (p := x = y) h]
    exact k
theorem r_bz_icmp_lt (B : Bd l X G b own nL D) {x y : Int32} (d : decode b pc = .ok (.if_icmp .lt 7, 3)) (d1 : decode b (pc + 3) = .ok (.iconst 1, 1)) (d2 : decode b (pc + 4) = .ok (.goto 4, 3)) (d3 : decode b (pc + 7) = .ok (.iconst 0, 1)) (k : V X G T σ L (.int (bI (¬ x < y)) :: st) (pc + 8)) : V X G T σ L (.int y :: .int x :: st) pc := by
  refine r_icmp_lt B (pc + 7) d (by omega) (fun h => ?_) (fun h => ?_)
  · refine r_iconst (x := 0) B d3 (by decide) ?_
    rw [bI_f (p := ¬ x < y) (by exact fun q => q h)]
    exact k
  · refine r_iconst (x := 1) B d1 (by decide) ?_
    refine r_goto B (pc + 8) d2 (by omega) ?_
    rw [bI_t (p := ¬ x < y) h]
    exact k
theorem r_bz_icmp_ge (B : Bd l X G b own nL D) {x y : Int32} (d : decode b pc = .ok (.if_icmp .ge 7, 3)) (d1 : decode b (pc + 3) = .ok (.iconst 1, 1)) (d2 : decode b (pc + 4) = .ok (.goto 4, 3)) (d3 : decode b (pc + 7) = .ok (.iconst 0, 1)) (k : V X G T σ L (.int (bI (¬ y ≤ x)) :: st) (pc + 8)) : V X G T σ L (.int y :: .int x :: st) pc := by
  refine r_icmp_ge B (pc + 7) d (by omega) (fun h => ?_) (fun h => ?_)
  · refine r_iconst (x := 0) B d3 (by decide) ?_
    rw [bI_f (p := ¬ y ≤ x) (by exact fun q => q h)]
    exact k
  · refine r_iconst (x := 1) B d1 (by decide) ?_
    refine r_goto B (pc + 8) d2 (by omega) ?_
    rw [bI_t (p := ¬ y ≤ x) h]
    exact k
theorem r_bz_icmp_gt (B : Bd l X G b own nL D) {x y : Int32} (d : decode b pc = .ok (.if_icmp .gt 7, 3)) (d1 : decode b (pc + 3) = .ok (.iconst 1, 1)) (d2 : decode b (pc + 4) = .ok (.goto 4, 3)) (d3 : decode b (pc + 7) = .ok (.iconst 0, 1)) (k : V X G T σ L (.int (bI (¬ y < x)) :: st) (pc + 8)) : V X G T σ L (.int y :: .int x :: st) pc := by
  refine r_icmp_gt B (pc + 7) d (by omega) (fun h => ?_) (fun h => ?_)
  · refine r_iconst (x := 0) B d3 (by decide) ?_
    rw [bI_f (p := ¬ y < x) (by exact fun q => q h)]
    exact k
  · refine r_iconst (x := 1) B d1 (by decide) ?_
    refine r_goto B (pc + 8) d2 (by omega) ?_
    rw [bI_t (p := ¬ y < x) h]
    exact k
theorem r_bz_icmp_le (B : Bd l X G b own nL D) {x y : Int32} (d : decode b pc = .ok (.if_icmp .le 7, 3)) (d1 : decode b (pc + 3) = .ok (.iconst 1, 1)) (d2 : decode b (pc + 4) = .ok (.goto 4, 3)) (d3 : decode b (pc + 7) = .ok (.iconst 0, 1)) (k : V X G T σ L (.int (bI (¬ x ≤ y)) :: st) (pc + 8)) : V X G T σ L (.int y :: .int x :: st) pc := by
  refine r_icmp_le B (pc + 7) d (by omega) (fun h => ?_) (fun h => ?_)
  · refine r_iconst (x := 0) B d3 (by decide) ?_
    rw [bI_f (p := ¬ x ≤ y) (by exact fun q => q h)]
    exact k
  · refine r_iconst (x := 1) B d1 (by decide) ?_
    refine r_goto B (pc + 8) d2 (by omega) ?_
    rw [bI_t (p := ¬ x ≤ y) h]
    exact k
end RB
theorem ix_eq {x : Int32} {N j : Nat} (h : x = nI j) (hj : j < N) (hN : N < 2 ^ 31) : ix x N j := by rw [h]; exact ix_nI hj hN
theorem st2_at (σ : Sg) (k i : Nat) (v : Int32) : st2 σ k i v k i = v := by simp [st2]
theorem st2_fd (σ : Sg) (k i : Nat) (v : Int32) {j : Nat} (h : j ≠ i) : st2 σ k i v k j = σ k j := by simp [st2, h]
theorem st2_cl (σ : Sg) (k i : Nat) (v : Int32) {a : Nat} (h : a ≠ k) : st2 σ k i v a = σ a := by funext b; simp [st2, h]
theorem st2_self (σ : Sg) (k i : Nat) : st2 σ k i (σ k i) = σ := by
  funext a b
  simp only [st2]
  split
  · subst_vars; split
    · subst_vars; rfl
    · rfl
  · rfl
theorem stepP_nI {x : Int32} (h : stepP x) : ∃ j, j < 16 ∧ x = nI j := by
  obtain ⟨j, hj, rfl⟩ := nI_of h.1
  refine ⟨j, ?_, rfl⟩
  rcases Nat.lt_or_ge j 16 with q | q
  · exact q
  · exact absurd ((nI_leI (a := 16) (by omega) hj).mpr q) h.2
theorem nI_stepP {j : Nat} (h : j < 16) : stepP (nI j) := ⟨nI_pos (by omega), fun q => by have := (nI_leI (a := 16) (by omega) (by omega)).mp q; omega⟩


theorem nI_is {j c : Nat} {x : Int32} (h : nI j = x) (hx : x = nI c) (hj : j < 2 ^ 31) (hc : c < 2 ^ 31) : j = c := (nI_eq hj hc).mp (h.trans hx)
theorem nI_nis {j c : Nat} {x : Int32} (h : ¬ nI j = x) (hx : x = nI c) : j ≠ c := fun e => h (by rw [e, hx])

set_option maxHeartbeats 4000000 in
set_option maxRecDepth 20000 in
theorem c_isStep (l : Launch) (G : GG) (T : List Sh) (σ : Sg) (x : Int32) : CtI l G mX7_isStep 0 T [.int x] σ (bI (stepP x)) σ := by
  refine ct_intro (by decide) (Nat.le_of_ble_eq_true rfl) (fun X B R => ?_)
  show V X G T σ [some (.int x)] [] 0
  refine r_iload_n (pc := 0) B dX7_isStep_0 rfl ?_
  refine r_if_lt (pc := 1) B 14 dX7_isStep_1 (by decide) (fun h1 => ?_) (fun h1 => ?_)
  · skip
    refine r_iconst (pc := 14) (x := 0) B dX7_isStep_14 (by decide) ?_
    exact r_zret (pc := 15) B R (by first | decide | exact bI_01 _) dX7_isStep_15 ⟨by grind [bI], rfl⟩
  · skip
    refine r_iload_n (pc := 4) B dX7_isStep_4 rfl ?_
    refine r_bipush (pc := 5) (x := 16) B dX7_isStep_5 (by decide) ?_
    refine r_bz_icmp_ge (pc := 7) B dX7_isStep_7 dX7_isStep_10 dX7_isStep_11 dX7_isStep_14 ?_
    exact r_zret (pc := 15) B R (by first | decide | exact bI_01 _) dX7_isStep_15 ⟨by grind [bI], rfl⟩
set_option maxHeartbeats 4000000 in
set_option maxRecDepth 20000 in
theorem c_isWithin (l : Launch) (G : GG) (T : List Sh) (σ : Sg) (v g : Int32) : CtI l G mX7_isWithin 0 T [.int v, .int g] σ (bI (withinP v g)) σ := by
  refine ct_intro (by decide) (Nat.le_of_ble_eq_true rfl) (fun X B R => ?_)
  show V X G T σ [some (.int v), some (.int g)] [] 0
  refine r_iload_n (pc := 0) B dX7_isWithin_0 rfl ?_
  refine r_if_lt (pc := 1) B 13 dX7_isWithin_1 (by decide) (fun h1 => ?_) (fun h1 => ?_)
  · skip
    refine r_iconst (pc := 13) (x := 0) B dX7_isWithin_13 (by decide) ?_
    exact r_zret (pc := 14) B R (by first | decide | exact bI_01 _) dX7_isWithin_14 ⟨by grind [bI], rfl⟩
  · skip
    refine r_iload_n (pc := 4) B dX7_isWithin_4 rfl ?_
    refine r_iload_n (pc := 5) B dX7_isWithin_5 rfl ?_
    refine r_bz_icmp_gt (pc := 6) B dX7_isWithin_6 dX7_isWithin_9 dX7_isWithin_10 dX7_isWithin_13 ?_
    exact r_zret (pc := 14) B R (by first | decide | exact bI_01 _) dX7_isWithin_14 ⟨by grind [bI], rfl⟩
/-! an umbrella by its eight numbers -/
def stiffF (u : Nat → Int32) : Int32 := if u 0 = 1 then mx 0 (5 * u 4 - 10) else if u 0 = 2 then 5 * u 4 + 15 else if u 0 = 3 then mx 0 (5 * u 4 + 15 - u 7 / 100) else if u 0 = 4 then mx 0 (5 * u 4 + 15 - u 7 / 100) / 2 else if u 0 = 5 then 5 else if u 0 = 6 then mx 0 (5 * u 4 - 10) / 2 else 5 * u 4
def bearF (s fr held : Int32) : Int32 := if held = fr then 2 * s else if (held = 0 ∧ fr = 1) ∨ (held = 1 ∧ fr = 0) then s / 2 else s
def covF (rain t : Int32) (k w : Int32) : Int32 := if k = 1 then rain / 2 + rain / 4 else if k = 2 then rain / 3 else if k = 3 then mx 0 (rain / 3 - 1) else if k = 4 then (if t - t / 2 * 2 = 0 then mx 0 (rain / 3 - 1) else 0) else if k = 5 then (if w < 50 then mn rain 4 else 0) else if k = 6 then mn rain (rain / 2 + rain / 4 + 2) else rain / 2
def paceF (t k : Int32) : Int32 := if k = 6 then (if t - t / 2 * 2 = 0 then 1 else 0) else if k = 4 ∨ k = 5 then 2 else 1
def windF (sn ro : Nat → Int32) (g t : Int32) (j : Nat) : Int32 := if ro j = 1 then (if t - t / 3 * 3 = 2 then sn j + g else sn j) / 2 else (if t - t / 3 * 3 = 2 then sn j + g else sn j)
def hbF (hb held fr nx z : Int32) : Int32 := if hb = 1 then fr else if hb = 2 then nx else if hb = 3 then (if z = 0 then fr else 3) else held
abbrev goesP (out held z : Int32) : Prop := ¬ out = 1 ∧ ¬ held = 3 ∧ ¬ z = 0
def outF (out held fr z : Int32) : Int32 := if out = 1 then (if held = fr then 0 else out) else if goesP out held z then 1 else out
def orS (p : Nat → Prop) (dp : ∀ n, Decidable (p n)) : Nat → Int32
  | 0 => 0
  | n + 1 => if p n then orS p dp n ||| ((1 : Int32) <<< (nI n &&& 31)) else orS p dp n
def newU (kind : Int32) (i : Nat) : Int32 := if i = 0 then kind else if i = 4 then 8 else 0
/-- the street at O comes to S -/
def cpSt (σ : Sg) (S O : Nat) : Sg := fun k i => if k = S ∧ (i = 3 ∨ i = 4 ∨ i = 5) then σ O i else if (k = S + 1 ∨ k = S + 2 ∨ k = S + 3) ∧ i < 16 then σ (O + (k - S)) i else σ k i
/-- the umbrella's numbers become f's -/
def wrU (σ : Sg) (U : Nat) (f : Nat → Int32) : Sg := fun k i => if k = U ∧ i < 8 then f i else σ k i
theorem cp2_eq (σ : Sg) (a c n : Nat) : cp2 σ a 0 c 0 n = fun k i => if k = c ∧ i < n then σ a i else σ k i := by
  funext k i
  simp only [cp2, va_up, va_cpy]
  by_cases h : k = c
  · subst h; simp [va_cpy]
  · simp [h]
def trF (σ : Sg) (U : Nat) (fr z : Int32) : Sg := st2 (st2 (st2 σ U 5 (outF (σ U 5) (σ U 2) fr z)) U 6 (if goesP (σ U 5) (σ U 2) z then mn 999 (σ U 6 + 1) else σ U 6)) U 4 (if goesP (σ U 5) (σ U 2) z then mx 0 (σ U 4 - 1) else σ U 4)

set_option maxHeartbeats 4000000 in
set_option maxRecDepth 20000 in
theorem c_stiff (l : Launch) (G : GG) (σ : Sg) {U : Nat} (hU : isU U) : CtI l G mX4_stiff 1 shT [.ref (ad G U)] σ (stiffF (σ U)) σ := by
  refine ct_intro (by decide) (Nat.le_of_ble_eq_true rfl) (fun X B R => ?_)
  show V X G shT σ [some (.ref (ad G U)), none, none, none, none] [] 0
  refine r_iconst (pc := 0) (x := 5) B dX4_stiff_0 (by decide) ?_
  refine r_aload_n (pc := 1) B dX4_stiff_1 rfl ?_
  refine r_geti (pc := 2) B FX4_24 (shU hU) rfl dX4_stiff_2 ?_
  refine r_imul (pc := 5) B dX4_stiff_5 ?_
  refine r_istore_1 (pc := 6) B dX4_stiff_6 (by decide) rfl ?_
  refine r_iconst (pc := 7) (x := 0) B dX4_stiff_7 (by decide) ?_
  refine r_iload_n (pc := 8) B dX4_stiff_8 rfl ?_
  refine r_bipush (pc := 9) (x := 10) B dX4_stiff_9 (by decide) ?_
  refine r_isub (pc := 11) B dX4_stiff_11 ?_
  refine r_mx (pc := 12) B q311 ⟨q312, q11, q313⟩ (by decide) (Nat.le_of_ble_eq_true rfl) dX4_stiff_12 ?_
  refine r_istore_2 (pc := 15) B dX4_stiff_15 (by decide) rfl ?_
  refine r_iload_n (pc := 16) B dX4_stiff_16 rfl ?_
  refine r_bipush (pc := 17) (x := 15) B dX4_stiff_17 (by decide) ?_
  refine r_iadd (pc := 19) B dX4_stiff_19 ?_
  refine r_istore_3 (pc := 20) B dX4_stiff_20 (by decide) rfl ?_
  refine r_iconst (pc := 21) (x := 0) B dX4_stiff_21 (by decide) ?_
  refine r_iload_n (pc := 22) B dX4_stiff_22 rfl ?_
  refine r_aload_n (pc := 23) B dX4_stiff_23 rfl ?_
  refine r_geti (pc := 24) B FX4_33 (shU hU) rfl dX4_stiff_24 ?_
  refine r_bipush (pc := 27) (x := 100) B dX4_stiff_27 (by decide) ?_
  refine r_idiv (pc := 29) B (by decide) dX4_stiff_29 ?_
  refine r_isub (pc := 30) B dX4_stiff_30 ?_
  refine r_mx (pc := 31) B q311 ⟨q312, q11, q313⟩ (by decide) (Nat.le_of_ble_eq_true rfl) dX4_stiff_31 ?_
  refine r_istore_4 (pc := 34) B dX4_stiff_34 (by decide) rfl ?_
  refine r_aload_n (pc := 36) B dX4_stiff_36 rfl ?_
  refine r_geti (pc := 37) B FX4_9 (shU hU) rfl dX4_stiff_37 ?_
  refine r_tsC (pc := 40) B 1 80 dX4_stiff_40 (by decide) (by decide) rfl (by decide) (fun h40_1 => ?_) (fun h40_1 => ?_)
  · skip
    refine r_iload_n (pc := 80) B dX4_stiff_80 rfl ?_
    exact r_iret (pc := 81) B R dX4_stiff_81 ⟨by clear B R X; grind [stiffF, mx], rfl⟩
  refine r_tsC (pc := 40) B 2 86 dX4_stiff_40 (by decide) (by decide) rfl (by decide) (fun h40_2 => ?_) (fun h40_2 => ?_)
  · skip
    refine r_iload_n (pc := 86) B dX4_stiff_86 rfl ?_
    exact r_iret (pc := 87) B R dX4_stiff_87 ⟨by clear B R X; grind [stiffF, mx], rfl⟩
  refine r_tsC (pc := 40) B 3 88 dX4_stiff_40 (by decide) (by decide) rfl (by decide) (fun h40_3 => ?_) (fun h40_3 => ?_)
  · skip
    refine r_iload (pc := 88) B dX4_stiff_88 rfl ?_
    exact r_iret (pc := 90) B R dX4_stiff_90 ⟨by clear B R X; grind [stiffF, mx], rfl⟩
  refine r_tsC (pc := 40) B 4 91 dX4_stiff_40 (by decide) (by decide) rfl (by decide) (fun h40_4 => ?_) (fun h40_4 => ?_)
  · skip
    refine r_iload (pc := 91) B dX4_stiff_91 rfl ?_
    refine r_iconst (pc := 93) (x := 2) B dX4_stiff_93 (by decide) ?_
    refine r_idiv (pc := 94) B (by decide) dX4_stiff_94 ?_
    exact r_iret (pc := 95) B R dX4_stiff_95 ⟨by clear B R X; grind [stiffF, mx], rfl⟩
  refine r_tsC (pc := 40) B 5 96 dX4_stiff_40 (by decide) (by decide) rfl (by decide) (fun h40_5 => ?_) (fun h40_5 => ?_)
  · skip
    refine r_iconst (pc := 96) (x := 5) B dX4_stiff_96 (by decide) ?_
    exact r_iret (pc := 97) B R dX4_stiff_97 ⟨by clear B R X; grind [stiffF, mx], rfl⟩
  refine r_tsC (pc := 40) B 6 82 dX4_stiff_40 (by decide) (by decide) rfl (by decide) (fun h40_6 => ?_) (fun h40_6 => ?_)
  · skip
    refine r_iload_n (pc := 82) B dX4_stiff_82 rfl ?_
    refine r_iconst (pc := 83) (x := 2) B dX4_stiff_83 (by decide) ?_
    refine r_idiv (pc := 84) B (by decide) dX4_stiff_84 ?_
    exact r_iret (pc := 85) B R dX4_stiff_85 ⟨by clear B R X; grind [stiffF, mx], rfl⟩
  refine r_tsD (pc := 40) B 98 dX4_stiff_40 (by have e0 := ts_in (c := 1) h40_1 rfl; have e1 := ts_in (c := 2) h40_2 rfl; have e2 := ts_in (c := 3) h40_3 rfl; have e3 := ts_in (c := 4) h40_4 rfl; have e4 := ts_in (c := 5) h40_5 rfl; have e5 := ts_in (c := 6) h40_6 rfl; omega) (by decide) ?_
  refine r_iload_n (pc := 98) B dX4_stiff_98 rfl ?_
  exact r_iret (pc := 99) B R dX4_stiff_99 ⟨by clear B R X; grind [stiffF, mx], rfl⟩
set_option maxHeartbeats 4000000 in
set_option maxRecDepth 20000 in
theorem c_bearable (l : Launch) (G : GG) (T : List Sh) (σ : Sg) (s fr held : Int32) : CtI l G mX4_bearable 0 T [.int s, .int fr, .int held] σ (bearF s fr held) σ := by
  refine ct_intro (by decide) (Nat.le_of_ble_eq_true rfl) (fun X B R => ?_)
  show V X G T σ [some (.int s), some (.int fr), some (.int held), none] [] 0
  refine r_iload_n (pc := 0) B dX4_bearable_0 rfl ?_
  refine r_iload_n (pc := 1) B dX4_bearable_1 rfl ?_
  refine r_icmp_ne (pc := 2) B 9 dX4_bearable_2 (by decide) (fun h2 => ?_) (fun h2 => ?_)
  · skip
    refine r_iload_n (pc := 9) B dX4_bearable_9 rfl ?_
    refine r_if_ne (pc := 10) B 18 dX4_bearable_10 (by decide) (fun h10 => ?_) (fun h10 => ?_)
    · skip
      refine r_iload_n (pc := 18) B dX4_bearable_18 rfl ?_
      refine r_iconst (pc := 19) (x := 1) B dX4_bearable_19 (by decide) ?_
      refine r_icmp_ne (pc := 20) B 31 dX4_bearable_20 (by decide) (fun h20 => ?_) (fun h20 => ?_)
      · skip
        refine r_iconst (pc := 31) (x := 0) B dX4_bearable_31 (by decide) ?_
        refine r_istore_3 (pc := 32) B dX4_bearable_32 (by decide) rfl ?_
        refine r_iload_n (pc := 33) B dX4_bearable_33 rfl ?_
        refine r_if_eq (pc := 34) B 43 dX4_bearable_34 (by decide) (fun h34 => ?_) (fun h34 => ?_)
        · skip
          refine r_iload_n (pc := 43) B dX4_bearable_43 rfl ?_
          exact r_iret (pc := 44) B R dX4_bearable_44 ⟨by clear B R X; grind [bearF, bI], rfl⟩
        · skip
          refine r_iload_n (pc := 37) B dX4_bearable_37 rfl ?_
          refine r_iconst (pc := 38) (x := 2) B dX4_bearable_38 (by decide) ?_
          refine r_idiv (pc := 39) B (by decide) dX4_bearable_39 ?_
          refine r_goto (pc := 40) B 44 dX4_bearable_40 (by decide) ?_
          exact r_iret (pc := 44) B R dX4_bearable_44 ⟨by clear B R X; grind [bearF, bI], rfl⟩
      · skip
        refine r_iload_n (pc := 23) B dX4_bearable_23 rfl ?_
        refine r_bz_if_ne (pc := 24) B dX4_bearable_24 dX4_bearable_27 dX4_bearable_28 dX4_bearable_31 ?_
        refine r_istore_3 (pc := 32) B dX4_bearable_32 (by decide) rfl ?_
        refine r_iload_n (pc := 33) B dX4_bearable_33 rfl ?_
        refine r_if_eq (pc := 34) B 43 dX4_bearable_34 (by decide) (fun h34 => ?_) (fun h34 => ?_)
        · skip
          refine r_iload_n (pc := 43) B dX4_bearable_43 rfl ?_
          exact r_iret (pc := 44) B R dX4_bearable_44 ⟨by clear B R X; grind [bearF, bI], rfl⟩
        · skip
          refine r_iload_n (pc := 37) B dX4_bearable_37 rfl ?_
          refine r_iconst (pc := 38) (x := 2) B dX4_bearable_38 (by decide) ?_
          refine r_idiv (pc := 39) B (by decide) dX4_bearable_39 ?_
          refine r_goto (pc := 40) B 44 dX4_bearable_40 (by decide) ?_
          exact r_iret (pc := 44) B R dX4_bearable_44 ⟨by clear B R X; grind [bearF, bI], rfl⟩
    · skip
      refine r_iload_n (pc := 13) B dX4_bearable_13 rfl ?_
      refine r_iconst (pc := 14) (x := 1) B dX4_bearable_14 (by decide) ?_
      refine r_icmp_eq (pc := 15) B 27 dX4_bearable_15 (by decide) (fun h15 => ?_) (fun h15 => ?_)
      · skip
        refine r_iconst (pc := 27) (x := 1) B dX4_bearable_27 (by decide) ?_
        refine r_goto (pc := 28) B 32 dX4_bearable_28 (by decide) ?_
        refine r_istore_3 (pc := 32) B dX4_bearable_32 (by decide) rfl ?_
        refine r_iload_n (pc := 33) B dX4_bearable_33 rfl ?_
        refine r_if_eq (pc := 34) B 43 dX4_bearable_34 (by decide) (fun h34 => ?_) (fun h34 => ?_)
        · skip
          refine r_iload_n (pc := 43) B dX4_bearable_43 rfl ?_
          exact r_iret (pc := 44) B R dX4_bearable_44 ⟨by clear B R X; grind [bearF, bI], rfl⟩
        · skip
          refine r_iload_n (pc := 37) B dX4_bearable_37 rfl ?_
          refine r_iconst (pc := 38) (x := 2) B dX4_bearable_38 (by decide) ?_
          refine r_idiv (pc := 39) B (by decide) dX4_bearable_39 ?_
          refine r_goto (pc := 40) B 44 dX4_bearable_40 (by decide) ?_
          exact r_iret (pc := 44) B R dX4_bearable_44 ⟨by clear B R X; grind [bearF, bI], rfl⟩
      · skip
        refine r_iload_n (pc := 18) B dX4_bearable_18 rfl ?_
        refine r_iconst (pc := 19) (x := 1) B dX4_bearable_19 (by decide) ?_
        refine r_icmp_ne (pc := 20) B 31 dX4_bearable_20 (by decide) (fun h20 => ?_) (fun h20 => ?_)
        · skip
          refine r_iconst (pc := 31) (x := 0) B dX4_bearable_31 (by decide) ?_
          refine r_istore_3 (pc := 32) B dX4_bearable_32 (by decide) rfl ?_
          refine r_iload_n (pc := 33) B dX4_bearable_33 rfl ?_
          refine r_if_eq (pc := 34) B 43 dX4_bearable_34 (by decide) (fun h34 => ?_) (fun h34 => ?_)
          · skip
            refine r_iload_n (pc := 43) B dX4_bearable_43 rfl ?_
            exact r_iret (pc := 44) B R dX4_bearable_44 ⟨by clear B R X; grind [bearF, bI], rfl⟩
          · skip
            refine r_iload_n (pc := 37) B dX4_bearable_37 rfl ?_
            refine r_iconst (pc := 38) (x := 2) B dX4_bearable_38 (by decide) ?_
            refine r_idiv (pc := 39) B (by decide) dX4_bearable_39 ?_
            refine r_goto (pc := 40) B 44 dX4_bearable_40 (by decide) ?_
            exact r_iret (pc := 44) B R dX4_bearable_44 ⟨by clear B R X; grind [bearF, bI], rfl⟩
        · skip
          refine r_iload_n (pc := 23) B dX4_bearable_23 rfl ?_
          refine r_bz_if_ne (pc := 24) B dX4_bearable_24 dX4_bearable_27 dX4_bearable_28 dX4_bearable_31 ?_
          refine r_istore_3 (pc := 32) B dX4_bearable_32 (by decide) rfl ?_
          refine r_iload_n (pc := 33) B dX4_bearable_33 rfl ?_
          refine r_if_eq (pc := 34) B 43 dX4_bearable_34 (by decide) (fun h34 => ?_) (fun h34 => ?_)
          · skip
            refine r_iload_n (pc := 43) B dX4_bearable_43 rfl ?_
            exact r_iret (pc := 44) B R dX4_bearable_44 ⟨by clear B R X; grind [bearF, bI], rfl⟩
          · skip
            refine r_iload_n (pc := 37) B dX4_bearable_37 rfl ?_
            refine r_iconst (pc := 38) (x := 2) B dX4_bearable_38 (by decide) ?_
            refine r_idiv (pc := 39) B (by decide) dX4_bearable_39 ?_
            refine r_goto (pc := 40) B 44 dX4_bearable_40 (by decide) ?_
            exact r_iret (pc := 44) B R dX4_bearable_44 ⟨by clear B R X; grind [bearF, bI], rfl⟩
  · skip
    refine r_iconst (pc := 5) (x := 2) B dX4_bearable_5 (by decide) ?_
    refine r_iload_n (pc := 6) B dX4_bearable_6 rfl ?_
    refine r_imul (pc := 7) B dX4_bearable_7 ?_
    exact r_iret (pc := 8) B R dX4_bearable_8 ⟨by clear B R X; grind [bearF, bI], rfl⟩
set_option maxHeartbeats 4000000 in
set_option maxRecDepth 20000 in
theorem c_covers (l : Launch) (G : GG) (σ : Sg) {U S : Nat} (hU : isU U) (hS : isS S) : CtI l G mX4_covers 1 shT [.ref (ad G U), .ref (ad G S)] σ (covF (σ S 3) (σ S 5) (σ U 0) (σ U 7)) σ := by
  refine ct_intro (by decide) (Nat.le_of_ble_eq_true rfl) (fun X B R => ?_)
  show V X G shT σ [some (.ref (ad G U)), some (.ref (ad G S)), none, none, none] [] 0
  refine r_aload_n (pc := 0) B dX4_covers_0 rfl ?_
  refine r_geti (pc := 1) B FX4_42 (shS hS) rfl dX4_covers_1 ?_
  refine r_istore_2 (pc := 4) B dX4_covers_4 (by decide) rfl ?_
  refine r_iload_n (pc := 5) B dX4_covers_5 rfl ?_
  refine r_iconst (pc := 6) (x := 2) B dX4_covers_6 (by decide) ?_
  refine r_idiv (pc := 7) B (by decide) dX4_covers_7 ?_
  refine r_iload_n (pc := 8) B dX4_covers_8 rfl ?_
  refine r_iconst (pc := 9) (x := 4) B dX4_covers_9 (by decide) ?_
  refine r_idiv (pc := 10) B (by decide) dX4_covers_10 ?_
  refine r_iadd (pc := 11) B dX4_covers_11 ?_
  refine r_istore_3 (pc := 12) B dX4_covers_12 (by decide) rfl ?_
  refine r_iconst (pc := 13) (x := 0) B dX4_covers_13 (by decide) ?_
  refine r_iload_n (pc := 14) B dX4_covers_14 rfl ?_
  refine r_iconst (pc := 15) (x := 3) B dX4_covers_15 (by decide) ?_
  refine r_idiv (pc := 16) B (by decide) dX4_covers_16 ?_
  refine r_iconst (pc := 17) (x := 1) B dX4_covers_17 (by decide) ?_
  refine r_isub (pc := 18) B dX4_covers_18 ?_
  refine r_mx (pc := 19) B q311 ⟨q312, q11, q313⟩ (by decide) (Nat.le_of_ble_eq_true rfl) dX4_covers_19 ?_
  refine r_istore_4 (pc := 22) B dX4_covers_22 (by decide) rfl ?_
  refine r_aload_n (pc := 24) B dX4_covers_24 rfl ?_
  refine r_geti (pc := 25) B FX4_9 (shU hU) rfl dX4_covers_25 ?_
  refine r_tsC (pc := 28) B 1 68 dX4_covers_28 (by decide) (by decide) rfl (by decide) (fun h28_1 => ?_) (fun h28_1 => ?_)
  · skip
    refine r_iload_n (pc := 68) B dX4_covers_68 rfl ?_
    exact r_iret (pc := 69) B R dX4_covers_69 ⟨by clear B R X; grind [covF, bI], rfl⟩
  refine r_tsC (pc := 28) B 2 78 dX4_covers_28 (by decide) (by decide) rfl (by decide) (fun h28_2 => ?_) (fun h28_2 => ?_)
  · skip
    refine r_iload_n (pc := 78) B dX4_covers_78 rfl ?_
    refine r_iconst (pc := 79) (x := 3) B dX4_covers_79 (by decide) ?_
    refine r_idiv (pc := 80) B (by decide) dX4_covers_80 ?_
    exact r_iret (pc := 81) B R dX4_covers_81 ⟨by clear B R X; grind [covF, bI], rfl⟩
  refine r_tsC (pc := 28) B 3 82 dX4_covers_28 (by decide) (by decide) rfl (by decide) (fun h28_3 => ?_) (fun h28_3 => ?_)
  · skip
    refine r_iload (pc := 82) B dX4_covers_82 rfl ?_
    exact r_iret (pc := 84) B R dX4_covers_84 ⟨by clear B R X; grind [covF, bI], rfl⟩
  refine r_tsC (pc := 28) B 4 85 dX4_covers_28 (by decide) (by decide) rfl (by decide) (fun h28_4 => ?_) (fun h28_4 => ?_)
  · skip
    refine r_aload_n (pc := 85) B dX4_covers_85 rfl ?_
    refine r_geti (pc := 86) B FX4_50 (shS hS) rfl dX4_covers_86 ?_
    refine r_iconst (pc := 89) (x := 2) B dX4_covers_89 (by decide) ?_
    refine r_irem (pc := 90) B (by decide) dX4_covers_90 ?_
    refine r_if_ne (pc := 91) B 99 dX4_covers_91 (by decide) (fun h91 => ?_) (fun h91 => ?_)
    · skip
      refine r_iconst (pc := 99) (x := 0) B dX4_covers_99 (by decide) ?_
      exact r_iret (pc := 100) B R dX4_covers_100 ⟨by clear B R X; grind [covF, bI], rfl⟩
    · skip
      refine r_iload (pc := 94) B dX4_covers_94 rfl ?_
      refine r_goto (pc := 96) B 100 dX4_covers_96 (by decide) ?_
      exact r_iret (pc := 100) B R dX4_covers_100 ⟨by clear B R X; grind [covF, bI], rfl⟩
  refine r_tsC (pc := 28) B 5 101 dX4_covers_28 (by decide) (by decide) rfl (by decide) (fun h28_5 => ?_) (fun h28_5 => ?_)
  · skip
    refine r_aload_n (pc := 101) B dX4_covers_101 rfl ?_
    refine r_geti (pc := 102) B FX4_33 (shU hU) rfl dX4_covers_102 ?_
    refine r_bipush (pc := 105) (x := 50) B dX4_covers_105 (by decide) ?_
    refine r_icmp_ge (pc := 107) B 118 dX4_covers_107 (by decide) (fun h107 => ?_) (fun h107 => ?_)
    · skip
      refine r_iconst (pc := 118) (x := 0) B dX4_covers_118 (by decide) ?_
      exact r_iret (pc := 119) B R dX4_covers_119 ⟨by clear B R X; grind [covF, bI], rfl⟩
    · skip
      refine r_iload_n (pc := 110) B dX4_covers_110 rfl ?_
      refine r_iconst (pc := 111) (x := 4) B dX4_covers_111 (by decide) ?_
      refine r_mn (pc := 112) B q318 ⟨q319, q11, q320⟩ (by decide) (Nat.le_of_ble_eq_true rfl) dX4_covers_112 ?_
      refine r_goto (pc := 115) B 119 dX4_covers_115 (by decide) ?_
      exact r_iret (pc := 119) B R dX4_covers_119 ⟨by clear B R X; grind [covF, bI], rfl⟩
  refine r_tsC (pc := 28) B 6 70 dX4_covers_28 (by decide) (by decide) rfl (by decide) (fun h28_6 => ?_) (fun h28_6 => ?_)
  · skip
    refine r_iload_n (pc := 70) B dX4_covers_70 rfl ?_
    refine r_iload_n (pc := 71) B dX4_covers_71 rfl ?_
    refine r_iconst (pc := 72) (x := 2) B dX4_covers_72 (by decide) ?_
    refine r_iadd (pc := 73) B dX4_covers_73 ?_
    refine r_mn (pc := 74) B q318 ⟨q319, q11, q320⟩ (by decide) (Nat.le_of_ble_eq_true rfl) dX4_covers_74 ?_
    exact r_iret (pc := 77) B R dX4_covers_77 ⟨by clear B R X; grind [covF, bI], rfl⟩
  refine r_tsD (pc := 28) B 120 dX4_covers_28 (by have e0 := ts_in (c := 1) h28_1 rfl; have e1 := ts_in (c := 2) h28_2 rfl; have e2 := ts_in (c := 3) h28_3 rfl; have e3 := ts_in (c := 4) h28_4 rfl; have e4 := ts_in (c := 5) h28_5 rfl; have e5 := ts_in (c := 6) h28_6 rfl; omega) (by decide) ?_
  refine r_iload_n (pc := 120) B dX4_covers_120 rfl ?_
  refine r_iconst (pc := 121) (x := 2) B dX4_covers_121 (by decide) ?_
  refine r_idiv (pc := 122) B (by decide) dX4_covers_122 ?_
  exact r_iret (pc := 123) B R dX4_covers_123 ⟨by clear B R X; grind [covF, bI], rfl⟩
set_option maxHeartbeats 4000000 in
set_option maxRecDepth 20000 in
theorem c_pace (l : Launch) (G : GG) (σ : Sg) {U : Nat} (hU : isU U) (t : Int32) : CtI l G mX4_pace 0 shT [.ref (ad G U), .int t] σ (paceF t (σ U 0)) σ := by
  refine ct_intro (by decide) (Nat.le_of_ble_eq_true rfl) (fun X B R => ?_)
  show V X G shT σ [some (.ref (ad G U)), some (.int t)] [] 0
  refine r_aload_n (pc := 0) B dX4_pace_0 rfl ?_
  refine r_geti (pc := 1) B FX4_9 (shU hU) rfl dX4_pace_1 ?_
  refine r_tsC (pc := 4) B 4 44 dX4_pace_4 (by decide) (by decide) rfl (by decide) (fun h4_4 => ?_) (fun h4_4 => ?_)
  · skip
    refine r_iconst (pc := 44) (x := 2) B dX4_pace_44 (by decide) ?_
    exact r_iret (pc := 45) B R dX4_pace_45 ⟨by clear B R X; grind [paceF, bI], rfl⟩
  refine r_tsC (pc := 4) B 5 44 dX4_pace_4 (by decide) (by decide) rfl (by decide) (fun h4_5 => ?_) (fun h4_5 => ?_)
  · skip
    refine r_iconst (pc := 44) (x := 2) B dX4_pace_44 (by decide) ?_
    exact r_iret (pc := 45) B R dX4_pace_45 ⟨by clear B R X; grind [paceF, bI], rfl⟩
  refine r_tsC (pc := 4) B 6 32 dX4_pace_4 (by decide) (by decide) rfl (by decide) (fun h4_6 => ?_) (fun h4_6 => ?_)
  · skip
    refine r_iload_n (pc := 32) B dX4_pace_32 rfl ?_
    refine r_iconst (pc := 33) (x := 2) B dX4_pace_33 (by decide) ?_
    refine r_irem (pc := 34) B (by decide) dX4_pace_34 ?_
    refine r_bz_if_ne (pc := 35) B dX4_pace_35 dX4_pace_38 dX4_pace_39 dX4_pace_42 ?_
    exact r_iret (pc := 43) B R dX4_pace_43 ⟨by clear B R X; grind [paceF, bI], rfl⟩
  refine r_tsD (pc := 4) B 46 dX4_pace_4 (by have e0 := ts_in (c := 4) h4_4 rfl; have e1 := ts_in (c := 5) h4_5 rfl; have e2 := ts_in (c := 6) h4_6 rfl; omega) (by decide) ?_
  refine r_iconst (pc := 46) (x := 1) B dX4_pace_46 (by decide) ?_
  exact r_iret (pc := 47) B R dX4_pace_47 ⟨by clear B R X; grind [paceF, bI], rfl⟩
set_option maxHeartbeats 4000000 in
set_option maxRecDepth 20000 in
theorem c_windOn (l : Launch) (G : GG) (σ : Sg) {S j : Nat} (hS : isS S) (hj : j < 16) : CtI l G mX2_windOn 1 shT [.ref (ad G S), .int (nI j)] σ (windF (σ (S + 2)) (σ (S + 3)) (σ S 4) (σ S 5) j) σ := by
  refine ct_intro (by decide) (Nat.le_of_ble_eq_true rfl) (fun X B R => ?_)
  show V X G shT σ [some (.ref (ad G S)), some (.int (nI j)), none] [] 0
  refine r_iload_n (pc := 0) B dX2_windOn_0 rfl ?_
  refine r_cNi1 (pc := 1) B KX2_43 (c_isStep l G _ _ _) (by decide) (Nat.le_of_ble_eq_true rfl) dX2_windOn_1 ?_
  refine r_if_ne (pc := 4) B 9 dX2_windOn_4 (by decide) (fun h4 => ?_) (fun h4 => ?_)
  · skip
    refine r_aload_n (pc := 9) B dX2_windOn_9 rfl ?_
    refine r_getr (pc := 10) B FX2_15 (shS hS) rfl dX2_windOn_10 ?_
    refine r_iload_n (pc := 13) B dX2_windOn_13 rfl ?_
    refine r_iald (pc := 14) B (shS2 hS) (ix_nI hj (by decide)) dX2_windOn_14 ?_
    refine r_istore_2 (pc := 15) B dX2_windOn_15 (by decide) rfl ?_
    refine r_aload_n (pc := 16) B dX2_windOn_16 rfl ?_
    refine r_geti (pc := 17) B FX2_28 (shS hS) rfl dX2_windOn_17 ?_
    refine r_iconst (pc := 20) (x := 3) B dX2_windOn_20 (by decide) ?_
    refine r_irem (pc := 21) B (by decide) dX2_windOn_21 ?_
    refine r_iconst (pc := 22) (x := 2) B dX2_windOn_22 (by decide) ?_
    refine r_icmp_ne (pc := 23) B 33 dX2_windOn_23 (by decide) (fun h23 => ?_) (fun h23 => ?_)
    · skip
      refine r_aload_n (pc := 33) B dX2_windOn_33 rfl ?_
      refine r_getr (pc := 34) B FX2_18 (shS hS) rfl dX2_windOn_34 ?_
      refine r_iload_n (pc := 37) B dX2_windOn_37 rfl ?_
      refine r_iald (pc := 38) B (shS3 hS) (ix_nI hj (by decide)) dX2_windOn_38 ?_
      refine r_iconst (pc := 39) (x := 1) B dX2_windOn_39 (by decide) ?_
      refine r_icmp_ne (pc := 40) B 49 dX2_windOn_40 (by decide) (fun h40 => ?_) (fun h40 => ?_)
      · skip
        refine r_iload_n (pc := 49) B dX2_windOn_49 rfl ?_
        exact r_iret (pc := 50) B R dX2_windOn_50 ⟨by clear B R X; grind [windF, bI], rfl⟩
      · skip
        refine r_iload_n (pc := 43) B dX2_windOn_43 rfl ?_
        refine r_iconst (pc := 44) (x := 2) B dX2_windOn_44 (by decide) ?_
        refine r_idiv (pc := 45) B (by decide) dX2_windOn_45 ?_
        refine r_goto (pc := 46) B 50 dX2_windOn_46 (by decide) ?_
        exact r_iret (pc := 50) B R dX2_windOn_50 ⟨by clear B R X; grind [windF, bI], rfl⟩
    · skip
      refine r_iload_n (pc := 26) B dX2_windOn_26 rfl ?_
      refine r_aload_n (pc := 27) B dX2_windOn_27 rfl ?_
      refine r_geti (pc := 28) B FX2_25 (shS hS) rfl dX2_windOn_28 ?_
      refine r_iadd (pc := 31) B dX2_windOn_31 ?_
      refine r_istore_2 (pc := 32) B dX2_windOn_32 (by decide) rfl ?_
      refine r_aload_n (pc := 33) B dX2_windOn_33 rfl ?_
      refine r_getr (pc := 34) B FX2_18 (shS hS) rfl dX2_windOn_34 ?_
      refine r_iload_n (pc := 37) B dX2_windOn_37 rfl ?_
      refine r_iald (pc := 38) B (shS3 hS) (ix_nI hj (by decide)) dX2_windOn_38 ?_
      refine r_iconst (pc := 39) (x := 1) B dX2_windOn_39 (by decide) ?_
      refine r_icmp_ne (pc := 40) B 49 dX2_windOn_40 (by decide) (fun h40 => ?_) (fun h40 => ?_)
      · skip
        refine r_iload_n (pc := 49) B dX2_windOn_49 rfl ?_
        exact r_iret (pc := 50) B R dX2_windOn_50 ⟨by clear B R X; grind [windF, bI], rfl⟩
      · skip
        refine r_iload_n (pc := 43) B dX2_windOn_43 rfl ?_
        refine r_iconst (pc := 44) (x := 2) B dX2_windOn_44 (by decide) ?_
        refine r_idiv (pc := 45) B (by decide) dX2_windOn_45 ?_
        refine r_goto (pc := 46) B 50 dX2_windOn_46 (by decide) ?_
        exact r_iret (pc := 50) B R dX2_windOn_50 ⟨by clear B R X; grind [windF, bI], rfl⟩
  · skip
    exact absurd (nI_stepP hj) (bI_0.mp h4)
set_option maxHeartbeats 4000000 in
set_option maxRecDepth 20000 in
theorem c_nextTick (l : Launch) (G : GG) (σ : Sg) {S : Nat} (hS : isS S) (t : Int32) : CtV l G mX2_nextTick 1 shT [.ref (ad G S), .int t] σ (st2 σ S 5 (mn 99999 (σ S 5 + t))) := by
  refine ct_intro (by decide) (Nat.le_of_ble_eq_true rfl) (fun X B R => ?_)
  show V X G shT σ [some (.ref (ad G S)), some (.int t)] [] 0
  refine r_aload_n (pc := 0) B dX2_nextTick_0 rfl ?_
  refine r_ldc (pc := 1) B q375 dX2_nextTick_1 ?_
  refine r_aload_n (pc := 3) B dX2_nextTick_3 rfl ?_
  refine r_geti (pc := 4) B FX2_28 (shS hS) rfl dX2_nextTick_4 ?_
  refine r_iload_n (pc := 7) B dX2_nextTick_7 rfl ?_
  refine r_iadd (pc := 8) B dX2_nextTick_8 ?_
  refine r_mn (pc := 9) B q376 ⟨q319, q11, q320⟩ (by decide) (Nat.le_of_ble_eq_true rfl) dX2_nextTick_9 ?_
  refine r_puti (pc := 12) B PX2_28 (shS hS) rfl dX2_nextTick_12 ?_
  exact r_vret (pc := 15) B R dX2_nextTick_15 ⟨rfl, rfl⟩
set_option maxHeartbeats 4000000 in
set_option maxRecDepth 20000 in
theorem c_roofs (l : Launch) (G : GG) (σ : Sg) {S : Nat} (hS : isS S) : CtI l G mX2_roofs 0 shT [.ref (ad G S)] σ (orS (fun n => σ (S + 3) n = 1) (fun _ => inferInstance) 16) σ := by
  refine ct_intro (by decide) (Nat.le_of_ble_eq_true rfl) (fun X B R => ?_)
  show V X G shT σ [some (.ref (ad G S)), none, none] [] 0
  refine r_iconst (pc := 0) (x := 0) B dX2_roofs_0 (by decide) ?_
  refine r_istore_1 (pc := 1) B dX2_roofs_1 (by decide) rfl ?_
  refine r_iconst (pc := 2) (x := 0) B dX2_roofs_2 (by decide) ?_
  refine r_istore_2 (pc := 3) B dX2_roofs_3 (by decide) rfl ?_
  have hL4 : ∀ (n i : Nat) (q : Int32), i ≤ 16 → 17 ≤ i + n → q = orS (fun n => σ (S + 3) n = 1) (fun _ => inferInstance) i → V X G shT σ [some (.ref (ad G S)), some (.int q), some (.int (nI i))] [] 4 := by
    intro n
    induction n with
    | zero => intro i q h1 h2; omega
    | succ n ih =>
      intro i q hi hn hq
      refine r_iload_n (pc := 4) B dX2_roofs_4 rfl ?_
      refine r_bipush (pc := 5) (x := 16) B dX2_roofs_5 (by decide) ?_
      refine r_icmp_ge (pc := 7) B 32 dX2_roofs_7 (by decide) (fun h7 => ?_) (fun h7 => ?_)
      · skip
        refine r_iload_n (pc := 32) B dX2_roofs_32 rfl ?_
        exact r_iret (pc := 33) B R dX2_roofs_33 ⟨by rw [show i = 16 by have := (nI_leI (a := 16) (by omega) (by omega)).mp h7; omega] at hq; rw [hq], rfl⟩
      · skip
        have hi16 : i < 16 := by
          rcases Nat.lt_or_ge i 16 with q | q
          · exact q
          · exact absurd ((nI_leI (a := 16) (by omega) (by omega)).mpr q) h7
        refine r_aload_n (pc := 10) B dX2_roofs_10 rfl ?_
        refine r_getr (pc := 11) B FX2_18 (shS hS) rfl dX2_roofs_11 ?_
        refine r_iload_n (pc := 14) B dX2_roofs_14 rfl ?_
        refine r_iald (pc := 15) B (shS3 hS) (ix_nI hi16 (by decide)) dX2_roofs_15 ?_
        refine r_iconst (pc := 16) (x := 1) B dX2_roofs_16 (by decide) ?_
        refine r_icmp_ne (pc := 17) B 26 dX2_roofs_17 (by decide) (fun h17 => ?_) (fun h17 => ?_)
        · skip
          refine r_iinc_2 (pc := 26) (y := _ + 1) B dX2_roofs_26 rfl (by decide) rfl ?_
          rw [nI_1]
          refine r_goto (pc := 29) B 4 dX2_roofs_29 (by decide) ?_
          exact ih (i + 1) _ hi16 (by omega) (by simp [orS, h17, hq])
        · skip
          refine r_iload_n (pc := 20) B dX2_roofs_20 rfl ?_
          refine r_iconst (pc := 21) (x := 1) B dX2_roofs_21 (by decide) ?_
          refine r_iload_n (pc := 22) B dX2_roofs_22 rfl ?_
          refine r_ishl (pc := 23) B dX2_roofs_23 ?_
          refine r_ior (pc := 24) B dX2_roofs_24 ?_
          refine r_istore_1 (pc := 25) B dX2_roofs_25 (by decide) rfl ?_
          refine r_iinc_2 (pc := 26) (y := _ + 1) B dX2_roofs_26 rfl (by decide) rfl ?_
          rw [nI_1]
          refine r_goto (pc := 29) B 4 dX2_roofs_29 (by decide) ?_
          exact ih (i + 1) _ hi16 (by omega) (by simp [orS, h17, hq])
  exact hL4 17 0 0 (by omega) (by omega) rfl
set_option maxHeartbeats 4000000 in
set_option maxRecDepth 20000 in
theorem c_holdByHabit (l : Launch) (G : GG) (σ : Sg) {U : Nat} (hU : isU U) (fr nx z : Int32) : CtV l G mX4_holdByHabit 0 shT [.ref (ad G U), .int fr, .int nx, .int z] σ (st2 σ U 2 (hbF (σ U 3) (σ U 2) fr nx z)) := by
  refine ct_intro (by decide) (Nat.le_of_ble_eq_true rfl) (fun X B R => ?_)
  show V X G shT σ [some (.ref (ad G U)), some (.int fr), some (.int nx), some (.int z)] [] 0
  refine r_aload_n (pc := 0) B dX4_holdByHabit_0 rfl ?_
  refine r_geti (pc := 1) B FX4_21 (shU hU) rfl dX4_holdByHabit_1 ?_
  refine r_tsC (pc := 4) B 1 32 dX4_holdByHabit_4 (by decide) (by decide) rfl (by decide) (fun h4_1 => ?_) (fun h4_1 => ?_)
  · skip
    refine r_aload_n (pc := 32) B dX4_holdByHabit_32 rfl ?_
    refine r_iload_n (pc := 33) B dX4_holdByHabit_33 rfl ?_
    refine r_puti (pc := 34) B PX4_18 (shU hU) rfl dX4_holdByHabit_34 ?_
    refine r_goto (pc := 37) B 64 dX4_holdByHabit_37 (by decide) ?_
    exact r_vret (pc := 64) B R dX4_holdByHabit_64 ⟨rfl, by clear B R; simp [hbF, *, st2_self]⟩
  refine r_tsC (pc := 4) B 2 40 dX4_holdByHabit_4 (by decide) (by decide) rfl (by decide) (fun h4_2 => ?_) (fun h4_2 => ?_)
  · skip
    refine r_aload_n (pc := 40) B dX4_holdByHabit_40 rfl ?_
    refine r_iload_n (pc := 41) B dX4_holdByHabit_41 rfl ?_
    refine r_puti (pc := 42) B PX4_18 (shU hU) rfl dX4_holdByHabit_42 ?_
    refine r_goto (pc := 45) B 64 dX4_holdByHabit_45 (by decide) ?_
    exact r_vret (pc := 64) B R dX4_holdByHabit_64 ⟨rfl, by clear B R; simp [hbF, *, st2_self]⟩
  refine r_tsC (pc := 4) B 3 48 dX4_holdByHabit_4 (by decide) (by decide) rfl (by decide) (fun h4_3 => ?_) (fun h4_3 => ?_)
  · skip
    refine r_aload_n (pc := 48) B dX4_holdByHabit_48 rfl ?_
    refine r_iload_n (pc := 49) B dX4_holdByHabit_49 rfl ?_
    refine r_if_eq (pc := 50) B 57 dX4_holdByHabit_50 (by decide) (fun h50 => ?_) (fun h50 => ?_)
    · skip
      refine r_iload_n (pc := 57) B dX4_holdByHabit_57 rfl ?_
      refine r_puti (pc := 58) B PX4_18 (shU hU) rfl dX4_holdByHabit_58 ?_
      refine r_goto (pc := 61) B 64 dX4_holdByHabit_61 (by decide) ?_
      exact r_vret (pc := 64) B R dX4_holdByHabit_64 ⟨rfl, by clear B R; simp [hbF, *, st2_self]⟩
    · skip
      refine r_iconst (pc := 53) (x := 3) B dX4_holdByHabit_53 (by decide) ?_
      refine r_goto (pc := 54) B 58 dX4_holdByHabit_54 (by decide) ?_
      refine r_puti (pc := 58) B PX4_18 (shU hU) rfl dX4_holdByHabit_58 ?_
      refine r_goto (pc := 61) B 64 dX4_holdByHabit_61 (by decide) ?_
      exact r_vret (pc := 64) B R dX4_holdByHabit_64 ⟨rfl, by clear B R; simp [hbF, *, st2_self]⟩
  refine r_tsD (pc := 4) B 64 dX4_holdByHabit_4 (by have e0 := ts_in (c := 1) h4_1 rfl; have e1 := ts_in (c := 2) h4_2 rfl; have e2 := ts_in (c := 3) h4_3 rfl; omega) (by decide) ?_
  exact r_vret (pc := 64) B R dX4_holdByHabit_64 ⟨rfl, by clear B R; simp [hbF, *, st2_self]⟩
set_option maxHeartbeats 4000000 in
set_option maxRecDepth 20000 in
theorem c_turn (l : Launch) (G : GG) (σ : Sg) {U : Nat} (hU : isU U) (fr z : Int32) : CtI l G mX4_turn 1 shT [.ref (ad G U), .int fr, .int z] σ (bI (goesP (σ U 5) (σ U 2) z)) (trF σ U fr z) := by
  refine ct_intro (by decide) (Nat.le_of_ble_eq_true rfl) (fun X B R => ?_)
  show V X G shT σ [some (.ref (ad G U)), some (.int fr), some (.int z)] [] 0
  refine r_aload_n (pc := 0) B dX4_turn_0 rfl ?_
  refine r_geti (pc := 1) B FX4_27 (shU hU) rfl dX4_turn_1 ?_
  refine r_iconst (pc := 4) (x := 1) B dX4_turn_4 (by decide) ?_
  refine r_icmp_ne (pc := 5) B 23 dX4_turn_5 (by decide) (fun h5 => ?_) (fun h5 => ?_)
  · skip
    refine r_aload_n (pc := 23) B dX4_turn_23 rfl ?_
    refine r_geti (pc := 24) B FX4_18 (shU hU) rfl dX4_turn_24 ?_
    refine r_iconst (pc := 27) (x := 3) B dX4_turn_27 (by decide) ?_
    refine r_icmp_eq (pc := 28) B 35 dX4_turn_28 (by decide) (fun h28 => ?_) (fun h28 => ?_)
    · skip
      refine r_iconst (pc := 35) (x := 0) B dX4_turn_35 (by decide) ?_
      exact r_zret (pc := 36) B R (by first | decide | exact bI_01 _) dX4_turn_36 ⟨by clear B R; simp_all [bI, goesP], by clear B R; funext a b; simp_all [trF, outF, goesP, st2]; try grind⟩
    · skip
      refine r_iload_n (pc := 31) B dX4_turn_31 rfl ?_
      refine r_if_ne (pc := 32) B 37 dX4_turn_32 (by decide) (fun h32 => ?_) (fun h32 => ?_)
      · skip
        refine r_aload_n (pc := 37) B dX4_turn_37 rfl ?_
        refine r_iconst (pc := 38) (x := 1) B dX4_turn_38 (by decide) ?_
        refine r_puti (pc := 39) B PX4_27 (shU hU) rfl dX4_turn_39 ?_
        refine r_aload_n (pc := 42) B dX4_turn_42 rfl ?_
        refine r_gsN (pc := 43) B (by decide +kernel) dX4_turn_43 ?_
        refine r_bipush (pc := 46) (x := 6) B dX4_turn_46 (by decide) ?_
        refine r_tg (pc := 48) (v := 999) B 6 (ix_of 6 rfl) rfl dX4_turn_48 ?_
        refine r_aload_n (pc := 49) B dX4_turn_49 rfl ?_
        refine r_geti (pc := 50) B FX4_30 (shU hU) rfl dX4_turn_50 ?_
        refine r_iconst (pc := 53) (x := 1) B dX4_turn_53 (by decide) ?_
        refine r_iadd (pc := 54) B dX4_turn_54 ?_
        refine r_mn (pc := 55) B q318 ⟨q319, q11, q320⟩ (by decide) (Nat.le_of_ble_eq_true rfl) dX4_turn_55 ?_
        refine r_puti (pc := 58) B PX4_30 (shU hU) rfl dX4_turn_58 ?_
        refine r_aload_n (pc := 61) B dX4_turn_61 rfl ?_
        refine r_iconst (pc := 62) (x := 0) B dX4_turn_62 (by decide) ?_
        refine r_aload_n (pc := 63) B dX4_turn_63 rfl ?_
        refine r_geti (pc := 64) B FX4_24 (shU hU) rfl dX4_turn_64 ?_
        refine r_iconst (pc := 67) (x := 1) B dX4_turn_67 (by decide) ?_
        refine r_isub (pc := 68) B dX4_turn_68 ?_
        refine r_mx (pc := 69) B q311 ⟨q312, q11, q313⟩ (by decide) (Nat.le_of_ble_eq_true rfl) dX4_turn_69 ?_
        refine r_puti (pc := 72) B PX4_24 (shU hU) rfl dX4_turn_72 ?_
        refine r_iconst (pc := 75) (x := 1) B dX4_turn_75 (by decide) ?_
        exact r_zret (pc := 76) B R (by first | decide | exact bI_01 _) dX4_turn_76 ⟨by clear B R; simp_all [bI, goesP], by clear B R; funext a b; simp_all [trF, outF, goesP, st2]; try grind⟩
      · skip
        refine r_iconst (pc := 35) (x := 0) B dX4_turn_35 (by decide) ?_
        exact r_zret (pc := 36) B R (by first | decide | exact bI_01 _) dX4_turn_36 ⟨by clear B R; simp_all [bI, goesP], by clear B R; funext a b; simp_all [trF, outF, goesP, st2]; try grind⟩
  · skip
    refine r_aload_n (pc := 8) B dX4_turn_8 rfl ?_
    refine r_geti (pc := 9) B FX4_18 (shU hU) rfl dX4_turn_9 ?_
    refine r_iload_n (pc := 12) B dX4_turn_12 rfl ?_
    refine r_icmp_ne (pc := 13) B 21 dX4_turn_13 (by decide) (fun h13 => ?_) (fun h13 => ?_)
    · skip
      refine r_iconst (pc := 21) (x := 0) B dX4_turn_21 (by decide) ?_
      exact r_zret (pc := 22) B R (by first | decide | exact bI_01 _) dX4_turn_22 ⟨by clear B R; simp_all [bI, goesP], by clear B R; funext a b; simp_all [trF, outF, goesP, st2]; try grind⟩
    · skip
      refine r_aload_n (pc := 16) B dX4_turn_16 rfl ?_
      refine r_iconst (pc := 17) (x := 0) B dX4_turn_17 (by decide) ?_
      refine r_puti (pc := 18) B PX4_27 (shU hU) rfl dX4_turn_18 ?_
      refine r_iconst (pc := 21) (x := 0) B dX4_turn_21 (by decide) ?_
      exact r_zret (pc := 22) B R (by first | decide | exact bI_01 _) dX4_turn_22 ⟨by clear B R; simp_all [bI, goesP], by clear B R; funext a b; simp_all [trF, outF, goesP, st2]; try grind⟩
set_option maxHeartbeats 4000000 in
set_option maxRecDepth 20000 in
theorem c_beNew (l : Launch) (G : GG) (σ : Sg) {U : Nat} (hU : isU U) (k : Int32) : CtV l G mX4_beNew 0 shT [.ref (ad G U), .int k] σ (wrU σ U (newU k)) := by
  refine ct_intro (by decide) (Nat.le_of_ble_eq_true rfl) (fun X B R => ?_)
  show V X G shT σ [some (.ref (ad G U)), some (.int k)] [] 0
  refine r_aload_n (pc := 0) B dX4_beNew_0 rfl ?_
  refine r_iload_n (pc := 1) B dX4_beNew_1 rfl ?_
  refine r_puti (pc := 2) B PX4_9 (shU hU) rfl dX4_beNew_2 ?_
  refine r_aload_n (pc := 5) B dX4_beNew_5 rfl ?_
  refine r_iconst (pc := 6) (x := 0) B dX4_beNew_6 (by decide) ?_
  refine r_puti (pc := 7) B PX4_15 (shU hU) rfl dX4_beNew_7 ?_
  refine r_aload_n (pc := 10) B dX4_beNew_10 rfl ?_
  refine r_iconst (pc := 11) (x := 0) B dX4_beNew_11 (by decide) ?_
  refine r_puti (pc := 12) B PX4_18 (shU hU) rfl dX4_beNew_12 ?_
  refine r_aload_n (pc := 15) B dX4_beNew_15 rfl ?_
  refine r_iconst (pc := 16) (x := 0) B dX4_beNew_16 (by decide) ?_
  refine r_puti (pc := 17) B PX4_21 (shU hU) rfl dX4_beNew_17 ?_
  refine r_aload_n (pc := 20) B dX4_beNew_20 rfl ?_
  refine r_bipush (pc := 21) (x := 8) B dX4_beNew_21 (by decide) ?_
  refine r_puti (pc := 23) B PX4_24 (shU hU) rfl dX4_beNew_23 ?_
  refine r_aload_n (pc := 26) B dX4_beNew_26 rfl ?_
  refine r_iconst (pc := 27) (x := 0) B dX4_beNew_27 (by decide) ?_
  refine r_puti (pc := 28) B PX4_27 (shU hU) rfl dX4_beNew_28 ?_
  refine r_aload_n (pc := 31) B dX4_beNew_31 rfl ?_
  refine r_iconst (pc := 32) (x := 0) B dX4_beNew_32 (by decide) ?_
  refine r_puti (pc := 33) B PX4_30 (shU hU) rfl dX4_beNew_33 ?_
  refine r_aload_n (pc := 36) B dX4_beNew_36 rfl ?_
  refine r_iconst (pc := 37) (x := 0) B dX4_beNew_37 (by decide) ?_
  refine r_puti (pc := 38) B PX4_33 (shU hU) rfl dX4_beNew_38 ?_
  exact r_vret (pc := 41) B R dX4_beNew_41 ⟨rfl, by clear B R X; funext a b; simp only [wrU, newU, st2]; grind⟩
set_option maxHeartbeats 4000000 in
set_option maxRecDepth 20000 in
theorem c_usetTo (l : Launch) (G : GG) (σ : Sg) {U O : Nat} (hU : isU U) (hO : isU O) (hne : O ≠ U) : CtV l G mX4_setTo 0 shT [.ref (ad G U), .ref (ad G O)] σ (wrU σ U (σ O)) := by
  refine ct_intro (by decide) (Nat.le_of_ble_eq_true rfl) (fun X B R => ?_)
  show V X G shT σ [some (.ref (ad G U)), some (.ref (ad G O))] [] 0
  refine r_aload_n (pc := 0) B dX4_setTo_0 rfl ?_
  refine r_aload_n (pc := 1) B dX4_setTo_1 rfl ?_
  refine r_geti (pc := 2) B FX4_9 (shU hO) rfl dX4_setTo_2 ?_
  refine r_puti (pc := 5) B PX4_9 (shU hU) rfl dX4_setTo_5 ?_
  refine r_aload_n (pc := 8) B dX4_setTo_8 rfl ?_
  refine r_aload_n (pc := 9) B dX4_setTo_9 rfl ?_
  refine r_geti (pc := 10) B FX4_15 (shU hO) rfl dX4_setTo_10 ?_
  refine r_puti (pc := 13) B PX4_15 (shU hU) rfl dX4_setTo_13 ?_
  refine r_aload_n (pc := 16) B dX4_setTo_16 rfl ?_
  refine r_aload_n (pc := 17) B dX4_setTo_17 rfl ?_
  refine r_geti (pc := 18) B FX4_18 (shU hO) rfl dX4_setTo_18 ?_
  refine r_puti (pc := 21) B PX4_18 (shU hU) rfl dX4_setTo_21 ?_
  refine r_aload_n (pc := 24) B dX4_setTo_24 rfl ?_
  refine r_aload_n (pc := 25) B dX4_setTo_25 rfl ?_
  refine r_geti (pc := 26) B FX4_21 (shU hO) rfl dX4_setTo_26 ?_
  refine r_puti (pc := 29) B PX4_21 (shU hU) rfl dX4_setTo_29 ?_
  refine r_aload_n (pc := 32) B dX4_setTo_32 rfl ?_
  refine r_aload_n (pc := 33) B dX4_setTo_33 rfl ?_
  refine r_geti (pc := 34) B FX4_24 (shU hO) rfl dX4_setTo_34 ?_
  refine r_puti (pc := 37) B PX4_24 (shU hU) rfl dX4_setTo_37 ?_
  refine r_aload_n (pc := 40) B dX4_setTo_40 rfl ?_
  refine r_aload_n (pc := 41) B dX4_setTo_41 rfl ?_
  refine r_geti (pc := 42) B FX4_27 (shU hO) rfl dX4_setTo_42 ?_
  refine r_puti (pc := 45) B PX4_27 (shU hU) rfl dX4_setTo_45 ?_
  refine r_aload_n (pc := 48) B dX4_setTo_48 rfl ?_
  refine r_aload_n (pc := 49) B dX4_setTo_49 rfl ?_
  refine r_geti (pc := 50) B FX4_30 (shU hO) rfl dX4_setTo_50 ?_
  refine r_puti (pc := 53) B PX4_30 (shU hU) rfl dX4_setTo_53 ?_
  refine r_aload_n (pc := 56) B dX4_setTo_56 rfl ?_
  refine r_aload_n (pc := 57) B dX4_setTo_57 rfl ?_
  refine r_geti (pc := 58) B FX4_33 (shU hO) rfl dX4_setTo_58 ?_
  refine r_puti (pc := 61) B PX4_33 (shU hU) rfl dX4_setTo_61 ?_
  exact r_vret (pc := 64) B R dX4_setTo_64 ⟨rfl, by clear B R X; funext a b; simp only [wrU, st2]; grind⟩
set_option maxHeartbeats 4000000 in
set_option maxRecDepth 20000 in
theorem c_mark (l : Launch) (G : GG) (σ : Sg) {U j : Nat} (hU : isU U) (hj : j < 8) : CtI l G mX4_mark 0 shT [.ref (ad G U), .int (nI j)] σ (σ U j) σ := by
  refine ct_intro (by decide) (Nat.le_of_ble_eq_true rfl) (fun X B R => ?_)
  show V X G shT σ [some (.ref (ad G U)), some (.int (nI j))] [] 0
  refine r_iload_n (pc := 0) B dX4_mark_0 rfl ?_
  refine r_tsC (pc := 1) B 0 44 dX4_mark_1 (by decide) (by decide) rfl (by decide) (fun h1_0 => ?_) (fun h1_0 => ?_)
  · skip
    refine r_aload_n (pc := 44) B dX4_mark_44 rfl ?_
    refine r_geti (pc := 45) B FX4_9 (shU hU) rfl dX4_mark_45 ?_
    exact r_iret (pc := 48) B R dX4_mark_48 ⟨by first | (rw [nI_is h1_0 (c := 0) rfl (by omega) (by decide)]) | (rw [nI_is h1_1 (c := 1) rfl (by omega) (by decide)]) | (rw [nI_is h1_2 (c := 2) rfl (by omega) (by decide)]) | (rw [nI_is h1_3 (c := 3) rfl (by omega) (by decide)]) | (rw [nI_is h1_4 (c := 4) rfl (by omega) (by decide)]) | (rw [nI_is h1_5 (c := 5) rfl (by omega) (by decide)]) | (rw [nI_is h1_6 (c := 6) rfl (by omega) (by decide)]) | (have n0 := nI_nis (c := 0) h1_0 rfl; have n1 := nI_nis (c := 1) h1_1 rfl; have n2 := nI_nis (c := 2) h1_2 rfl; have n3 := nI_nis (c := 3) h1_3 rfl; have n4 := nI_nis (c := 4) h1_4 rfl; have n5 := nI_nis (c := 5) h1_5 rfl; have n6 := nI_nis (c := 6) h1_6 rfl; rw [show j = 7 by omega]), rfl⟩
  refine r_tsC (pc := 1) B 1 49 dX4_mark_1 (by decide) (by decide) rfl (by decide) (fun h1_1 => ?_) (fun h1_1 => ?_)
  · skip
    refine r_aload_n (pc := 49) B dX4_mark_49 rfl ?_
    refine r_geti (pc := 50) B FX4_15 (shU hU) rfl dX4_mark_50 ?_
    exact r_iret (pc := 53) B R dX4_mark_53 ⟨by first | (rw [nI_is h1_0 (c := 0) rfl (by omega) (by decide)]) | (rw [nI_is h1_1 (c := 1) rfl (by omega) (by decide)]) | (rw [nI_is h1_2 (c := 2) rfl (by omega) (by decide)]) | (rw [nI_is h1_3 (c := 3) rfl (by omega) (by decide)]) | (rw [nI_is h1_4 (c := 4) rfl (by omega) (by decide)]) | (rw [nI_is h1_5 (c := 5) rfl (by omega) (by decide)]) | (rw [nI_is h1_6 (c := 6) rfl (by omega) (by decide)]) | (have n0 := nI_nis (c := 0) h1_0 rfl; have n1 := nI_nis (c := 1) h1_1 rfl; have n2 := nI_nis (c := 2) h1_2 rfl; have n3 := nI_nis (c := 3) h1_3 rfl; have n4 := nI_nis (c := 4) h1_4 rfl; have n5 := nI_nis (c := 5) h1_5 rfl; have n6 := nI_nis (c := 6) h1_6 rfl; rw [show j = 7 by omega]), rfl⟩
  refine r_tsC (pc := 1) B 2 54 dX4_mark_1 (by decide) (by decide) rfl (by decide) (fun h1_2 => ?_) (fun h1_2 => ?_)
  · skip
    refine r_aload_n (pc := 54) B dX4_mark_54 rfl ?_
    refine r_geti (pc := 55) B FX4_18 (shU hU) rfl dX4_mark_55 ?_
    exact r_iret (pc := 58) B R dX4_mark_58 ⟨by first | (rw [nI_is h1_0 (c := 0) rfl (by omega) (by decide)]) | (rw [nI_is h1_1 (c := 1) rfl (by omega) (by decide)]) | (rw [nI_is h1_2 (c := 2) rfl (by omega) (by decide)]) | (rw [nI_is h1_3 (c := 3) rfl (by omega) (by decide)]) | (rw [nI_is h1_4 (c := 4) rfl (by omega) (by decide)]) | (rw [nI_is h1_5 (c := 5) rfl (by omega) (by decide)]) | (rw [nI_is h1_6 (c := 6) rfl (by omega) (by decide)]) | (have n0 := nI_nis (c := 0) h1_0 rfl; have n1 := nI_nis (c := 1) h1_1 rfl; have n2 := nI_nis (c := 2) h1_2 rfl; have n3 := nI_nis (c := 3) h1_3 rfl; have n4 := nI_nis (c := 4) h1_4 rfl; have n5 := nI_nis (c := 5) h1_5 rfl; have n6 := nI_nis (c := 6) h1_6 rfl; rw [show j = 7 by omega]), rfl⟩
  refine r_tsC (pc := 1) B 3 59 dX4_mark_1 (by decide) (by decide) rfl (by decide) (fun h1_3 => ?_) (fun h1_3 => ?_)
  · skip
    refine r_aload_n (pc := 59) B dX4_mark_59 rfl ?_
    refine r_geti (pc := 60) B FX4_21 (shU hU) rfl dX4_mark_60 ?_
    exact r_iret (pc := 63) B R dX4_mark_63 ⟨by first | (rw [nI_is h1_0 (c := 0) rfl (by omega) (by decide)]) | (rw [nI_is h1_1 (c := 1) rfl (by omega) (by decide)]) | (rw [nI_is h1_2 (c := 2) rfl (by omega) (by decide)]) | (rw [nI_is h1_3 (c := 3) rfl (by omega) (by decide)]) | (rw [nI_is h1_4 (c := 4) rfl (by omega) (by decide)]) | (rw [nI_is h1_5 (c := 5) rfl (by omega) (by decide)]) | (rw [nI_is h1_6 (c := 6) rfl (by omega) (by decide)]) | (have n0 := nI_nis (c := 0) h1_0 rfl; have n1 := nI_nis (c := 1) h1_1 rfl; have n2 := nI_nis (c := 2) h1_2 rfl; have n3 := nI_nis (c := 3) h1_3 rfl; have n4 := nI_nis (c := 4) h1_4 rfl; have n5 := nI_nis (c := 5) h1_5 rfl; have n6 := nI_nis (c := 6) h1_6 rfl; rw [show j = 7 by omega]), rfl⟩
  refine r_tsC (pc := 1) B 4 64 dX4_mark_1 (by decide) (by decide) rfl (by decide) (fun h1_4 => ?_) (fun h1_4 => ?_)
  · skip
    refine r_aload_n (pc := 64) B dX4_mark_64 rfl ?_
    refine r_geti (pc := 65) B FX4_24 (shU hU) rfl dX4_mark_65 ?_
    exact r_iret (pc := 68) B R dX4_mark_68 ⟨by first | (rw [nI_is h1_0 (c := 0) rfl (by omega) (by decide)]) | (rw [nI_is h1_1 (c := 1) rfl (by omega) (by decide)]) | (rw [nI_is h1_2 (c := 2) rfl (by omega) (by decide)]) | (rw [nI_is h1_3 (c := 3) rfl (by omega) (by decide)]) | (rw [nI_is h1_4 (c := 4) rfl (by omega) (by decide)]) | (rw [nI_is h1_5 (c := 5) rfl (by omega) (by decide)]) | (rw [nI_is h1_6 (c := 6) rfl (by omega) (by decide)]) | (have n0 := nI_nis (c := 0) h1_0 rfl; have n1 := nI_nis (c := 1) h1_1 rfl; have n2 := nI_nis (c := 2) h1_2 rfl; have n3 := nI_nis (c := 3) h1_3 rfl; have n4 := nI_nis (c := 4) h1_4 rfl; have n5 := nI_nis (c := 5) h1_5 rfl; have n6 := nI_nis (c := 6) h1_6 rfl; rw [show j = 7 by omega]), rfl⟩
  refine r_tsC (pc := 1) B 5 69 dX4_mark_1 (by decide) (by decide) rfl (by decide) (fun h1_5 => ?_) (fun h1_5 => ?_)
  · skip
    refine r_aload_n (pc := 69) B dX4_mark_69 rfl ?_
    refine r_geti (pc := 70) B FX4_27 (shU hU) rfl dX4_mark_70 ?_
    exact r_iret (pc := 73) B R dX4_mark_73 ⟨by first | (rw [nI_is h1_0 (c := 0) rfl (by omega) (by decide)]) | (rw [nI_is h1_1 (c := 1) rfl (by omega) (by decide)]) | (rw [nI_is h1_2 (c := 2) rfl (by omega) (by decide)]) | (rw [nI_is h1_3 (c := 3) rfl (by omega) (by decide)]) | (rw [nI_is h1_4 (c := 4) rfl (by omega) (by decide)]) | (rw [nI_is h1_5 (c := 5) rfl (by omega) (by decide)]) | (rw [nI_is h1_6 (c := 6) rfl (by omega) (by decide)]) | (have n0 := nI_nis (c := 0) h1_0 rfl; have n1 := nI_nis (c := 1) h1_1 rfl; have n2 := nI_nis (c := 2) h1_2 rfl; have n3 := nI_nis (c := 3) h1_3 rfl; have n4 := nI_nis (c := 4) h1_4 rfl; have n5 := nI_nis (c := 5) h1_5 rfl; have n6 := nI_nis (c := 6) h1_6 rfl; rw [show j = 7 by omega]), rfl⟩
  refine r_tsC (pc := 1) B 6 74 dX4_mark_1 (by decide) (by decide) rfl (by decide) (fun h1_6 => ?_) (fun h1_6 => ?_)
  · skip
    refine r_aload_n (pc := 74) B dX4_mark_74 rfl ?_
    refine r_geti (pc := 75) B FX4_30 (shU hU) rfl dX4_mark_75 ?_
    exact r_iret (pc := 78) B R dX4_mark_78 ⟨by first | (rw [nI_is h1_0 (c := 0) rfl (by omega) (by decide)]) | (rw [nI_is h1_1 (c := 1) rfl (by omega) (by decide)]) | (rw [nI_is h1_2 (c := 2) rfl (by omega) (by decide)]) | (rw [nI_is h1_3 (c := 3) rfl (by omega) (by decide)]) | (rw [nI_is h1_4 (c := 4) rfl (by omega) (by decide)]) | (rw [nI_is h1_5 (c := 5) rfl (by omega) (by decide)]) | (rw [nI_is h1_6 (c := 6) rfl (by omega) (by decide)]) | (have n0 := nI_nis (c := 0) h1_0 rfl; have n1 := nI_nis (c := 1) h1_1 rfl; have n2 := nI_nis (c := 2) h1_2 rfl; have n3 := nI_nis (c := 3) h1_3 rfl; have n4 := nI_nis (c := 4) h1_4 rfl; have n5 := nI_nis (c := 5) h1_5 rfl; have n6 := nI_nis (c := 6) h1_6 rfl; rw [show j = 7 by omega]), rfl⟩
  refine r_tsD (pc := 1) B 79 dX4_mark_1 (by have e0 := ts_in (c := 0) h1_0 rfl; have e1 := ts_in (c := 1) h1_1 rfl; have e2 := ts_in (c := 2) h1_2 rfl; have e3 := ts_in (c := 3) h1_3 rfl; have e4 := ts_in (c := 4) h1_4 rfl; have e5 := ts_in (c := 5) h1_5 rfl; have e6 := ts_in (c := 6) h1_6 rfl; omega) (by decide) ?_
  refine r_aload_n (pc := 79) B dX4_mark_79 rfl ?_
  refine r_geti (pc := 80) B FX4_33 (shU hU) rfl dX4_mark_80 ?_
  exact r_iret (pc := 83) B R dX4_mark_83 ⟨by first | (rw [nI_is h1_0 (c := 0) rfl (by omega) (by decide)]) | (rw [nI_is h1_1 (c := 1) rfl (by omega) (by decide)]) | (rw [nI_is h1_2 (c := 2) rfl (by omega) (by decide)]) | (rw [nI_is h1_3 (c := 3) rfl (by omega) (by decide)]) | (rw [nI_is h1_4 (c := 4) rfl (by omega) (by decide)]) | (rw [nI_is h1_5 (c := 5) rfl (by omega) (by decide)]) | (rw [nI_is h1_6 (c := 6) rfl (by omega) (by decide)]) | (have n0 := nI_nis (c := 0) h1_0 rfl; have n1 := nI_nis (c := 1) h1_1 rfl; have n2 := nI_nis (c := 2) h1_2 rfl; have n3 := nI_nis (c := 3) h1_3 rfl; have n4 := nI_nis (c := 4) h1_4 rfl; have n5 := nI_nis (c := 5) h1_5 rfl; have n6 := nI_nis (c := 6) h1_6 rfl; rw [show j = 7 by omega]), rfl⟩
set_option maxHeartbeats 4000000 in
set_option maxRecDepth 20000 in
theorem c_setMark (l : Launch) (G : GG) (σ : Sg) {U j : Nat} (hU : isU U) (hj : j < 8) (v : Int32) : CtV l G mX4_setMark 0 shT [.ref (ad G U), .int (nI j), .int v] σ (st2 σ U j v) := by
  refine ct_intro (by decide) (Nat.le_of_ble_eq_true rfl) (fun X B R => ?_)
  show V X G shT σ [some (.ref (ad G U)), some (.int (nI j)), some (.int v)] [] 0
  refine r_iload_n (pc := 0) B dX4_setMark_0 rfl ?_
  refine r_tsC (pc := 1) B 0 44 dX4_setMark_1 (by decide) (by decide) rfl (by decide) (fun h1_0 => ?_) (fun h1_0 => ?_)
  · skip
    refine r_aload_n (pc := 44) B dX4_setMark_44 rfl ?_
    refine r_iload_n (pc := 45) B dX4_setMark_45 rfl ?_
    refine r_puti (pc := 46) B PX4_9 (shU hU) rfl dX4_setMark_46 ?_
    refine r_goto (pc := 49) B 105 dX4_setMark_49 (by decide) ?_
    exact r_vret (pc := 105) B R dX4_setMark_105 ⟨rfl, by first | (rw [nI_is h1_0 (c := 0) rfl (by omega) (by decide)]) | (rw [nI_is h1_1 (c := 1) rfl (by omega) (by decide)]) | (rw [nI_is h1_2 (c := 2) rfl (by omega) (by decide)]) | (rw [nI_is h1_3 (c := 3) rfl (by omega) (by decide)]) | (rw [nI_is h1_4 (c := 4) rfl (by omega) (by decide)]) | (rw [nI_is h1_5 (c := 5) rfl (by omega) (by decide)]) | (rw [nI_is h1_6 (c := 6) rfl (by omega) (by decide)]) | (have n0 := nI_nis (c := 0) h1_0 rfl; have n1 := nI_nis (c := 1) h1_1 rfl; have n2 := nI_nis (c := 2) h1_2 rfl; have n3 := nI_nis (c := 3) h1_3 rfl; have n4 := nI_nis (c := 4) h1_4 rfl; have n5 := nI_nis (c := 5) h1_5 rfl; have n6 := nI_nis (c := 6) h1_6 rfl; rw [show j = 7 by omega])⟩
  refine r_tsC (pc := 1) B 1 52 dX4_setMark_1 (by decide) (by decide) rfl (by decide) (fun h1_1 => ?_) (fun h1_1 => ?_)
  · skip
    refine r_aload_n (pc := 52) B dX4_setMark_52 rfl ?_
    refine r_iload_n (pc := 53) B dX4_setMark_53 rfl ?_
    refine r_puti (pc := 54) B PX4_15 (shU hU) rfl dX4_setMark_54 ?_
    refine r_goto (pc := 57) B 105 dX4_setMark_57 (by decide) ?_
    exact r_vret (pc := 105) B R dX4_setMark_105 ⟨rfl, by first | (rw [nI_is h1_0 (c := 0) rfl (by omega) (by decide)]) | (rw [nI_is h1_1 (c := 1) rfl (by omega) (by decide)]) | (rw [nI_is h1_2 (c := 2) rfl (by omega) (by decide)]) | (rw [nI_is h1_3 (c := 3) rfl (by omega) (by decide)]) | (rw [nI_is h1_4 (c := 4) rfl (by omega) (by decide)]) | (rw [nI_is h1_5 (c := 5) rfl (by omega) (by decide)]) | (rw [nI_is h1_6 (c := 6) rfl (by omega) (by decide)]) | (have n0 := nI_nis (c := 0) h1_0 rfl; have n1 := nI_nis (c := 1) h1_1 rfl; have n2 := nI_nis (c := 2) h1_2 rfl; have n3 := nI_nis (c := 3) h1_3 rfl; have n4 := nI_nis (c := 4) h1_4 rfl; have n5 := nI_nis (c := 5) h1_5 rfl; have n6 := nI_nis (c := 6) h1_6 rfl; rw [show j = 7 by omega])⟩
  refine r_tsC (pc := 1) B 2 60 dX4_setMark_1 (by decide) (by decide) rfl (by decide) (fun h1_2 => ?_) (fun h1_2 => ?_)
  · skip
    refine r_aload_n (pc := 60) B dX4_setMark_60 rfl ?_
    refine r_iload_n (pc := 61) B dX4_setMark_61 rfl ?_
    refine r_puti (pc := 62) B PX4_18 (shU hU) rfl dX4_setMark_62 ?_
    refine r_goto (pc := 65) B 105 dX4_setMark_65 (by decide) ?_
    exact r_vret (pc := 105) B R dX4_setMark_105 ⟨rfl, by first | (rw [nI_is h1_0 (c := 0) rfl (by omega) (by decide)]) | (rw [nI_is h1_1 (c := 1) rfl (by omega) (by decide)]) | (rw [nI_is h1_2 (c := 2) rfl (by omega) (by decide)]) | (rw [nI_is h1_3 (c := 3) rfl (by omega) (by decide)]) | (rw [nI_is h1_4 (c := 4) rfl (by omega) (by decide)]) | (rw [nI_is h1_5 (c := 5) rfl (by omega) (by decide)]) | (rw [nI_is h1_6 (c := 6) rfl (by omega) (by decide)]) | (have n0 := nI_nis (c := 0) h1_0 rfl; have n1 := nI_nis (c := 1) h1_1 rfl; have n2 := nI_nis (c := 2) h1_2 rfl; have n3 := nI_nis (c := 3) h1_3 rfl; have n4 := nI_nis (c := 4) h1_4 rfl; have n5 := nI_nis (c := 5) h1_5 rfl; have n6 := nI_nis (c := 6) h1_6 rfl; rw [show j = 7 by omega])⟩
  refine r_tsC (pc := 1) B 3 68 dX4_setMark_1 (by decide) (by decide) rfl (by decide) (fun h1_3 => ?_) (fun h1_3 => ?_)
  · skip
    refine r_aload_n (pc := 68) B dX4_setMark_68 rfl ?_
    refine r_iload_n (pc := 69) B dX4_setMark_69 rfl ?_
    refine r_puti (pc := 70) B PX4_21 (shU hU) rfl dX4_setMark_70 ?_
    refine r_goto (pc := 73) B 105 dX4_setMark_73 (by decide) ?_
    exact r_vret (pc := 105) B R dX4_setMark_105 ⟨rfl, by first | (rw [nI_is h1_0 (c := 0) rfl (by omega) (by decide)]) | (rw [nI_is h1_1 (c := 1) rfl (by omega) (by decide)]) | (rw [nI_is h1_2 (c := 2) rfl (by omega) (by decide)]) | (rw [nI_is h1_3 (c := 3) rfl (by omega) (by decide)]) | (rw [nI_is h1_4 (c := 4) rfl (by omega) (by decide)]) | (rw [nI_is h1_5 (c := 5) rfl (by omega) (by decide)]) | (rw [nI_is h1_6 (c := 6) rfl (by omega) (by decide)]) | (have n0 := nI_nis (c := 0) h1_0 rfl; have n1 := nI_nis (c := 1) h1_1 rfl; have n2 := nI_nis (c := 2) h1_2 rfl; have n3 := nI_nis (c := 3) h1_3 rfl; have n4 := nI_nis (c := 4) h1_4 rfl; have n5 := nI_nis (c := 5) h1_5 rfl; have n6 := nI_nis (c := 6) h1_6 rfl; rw [show j = 7 by omega])⟩
  refine r_tsC (pc := 1) B 4 76 dX4_setMark_1 (by decide) (by decide) rfl (by decide) (fun h1_4 => ?_) (fun h1_4 => ?_)
  · skip
    refine r_aload_n (pc := 76) B dX4_setMark_76 rfl ?_
    refine r_iload_n (pc := 77) B dX4_setMark_77 rfl ?_
    refine r_puti (pc := 78) B PX4_24 (shU hU) rfl dX4_setMark_78 ?_
    refine r_goto (pc := 81) B 105 dX4_setMark_81 (by decide) ?_
    exact r_vret (pc := 105) B R dX4_setMark_105 ⟨rfl, by first | (rw [nI_is h1_0 (c := 0) rfl (by omega) (by decide)]) | (rw [nI_is h1_1 (c := 1) rfl (by omega) (by decide)]) | (rw [nI_is h1_2 (c := 2) rfl (by omega) (by decide)]) | (rw [nI_is h1_3 (c := 3) rfl (by omega) (by decide)]) | (rw [nI_is h1_4 (c := 4) rfl (by omega) (by decide)]) | (rw [nI_is h1_5 (c := 5) rfl (by omega) (by decide)]) | (rw [nI_is h1_6 (c := 6) rfl (by omega) (by decide)]) | (have n0 := nI_nis (c := 0) h1_0 rfl; have n1 := nI_nis (c := 1) h1_1 rfl; have n2 := nI_nis (c := 2) h1_2 rfl; have n3 := nI_nis (c := 3) h1_3 rfl; have n4 := nI_nis (c := 4) h1_4 rfl; have n5 := nI_nis (c := 5) h1_5 rfl; have n6 := nI_nis (c := 6) h1_6 rfl; rw [show j = 7 by omega])⟩
  refine r_tsC (pc := 1) B 5 84 dX4_setMark_1 (by decide) (by decide) rfl (by decide) (fun h1_5 => ?_) (fun h1_5 => ?_)
  · skip
    refine r_aload_n (pc := 84) B dX4_setMark_84 rfl ?_
    refine r_iload_n (pc := 85) B dX4_setMark_85 rfl ?_
    refine r_puti (pc := 86) B PX4_27 (shU hU) rfl dX4_setMark_86 ?_
    refine r_goto (pc := 89) B 105 dX4_setMark_89 (by decide) ?_
    exact r_vret (pc := 105) B R dX4_setMark_105 ⟨rfl, by first | (rw [nI_is h1_0 (c := 0) rfl (by omega) (by decide)]) | (rw [nI_is h1_1 (c := 1) rfl (by omega) (by decide)]) | (rw [nI_is h1_2 (c := 2) rfl (by omega) (by decide)]) | (rw [nI_is h1_3 (c := 3) rfl (by omega) (by decide)]) | (rw [nI_is h1_4 (c := 4) rfl (by omega) (by decide)]) | (rw [nI_is h1_5 (c := 5) rfl (by omega) (by decide)]) | (rw [nI_is h1_6 (c := 6) rfl (by omega) (by decide)]) | (have n0 := nI_nis (c := 0) h1_0 rfl; have n1 := nI_nis (c := 1) h1_1 rfl; have n2 := nI_nis (c := 2) h1_2 rfl; have n3 := nI_nis (c := 3) h1_3 rfl; have n4 := nI_nis (c := 4) h1_4 rfl; have n5 := nI_nis (c := 5) h1_5 rfl; have n6 := nI_nis (c := 6) h1_6 rfl; rw [show j = 7 by omega])⟩
  refine r_tsC (pc := 1) B 6 92 dX4_setMark_1 (by decide) (by decide) rfl (by decide) (fun h1_6 => ?_) (fun h1_6 => ?_)
  · skip
    refine r_aload_n (pc := 92) B dX4_setMark_92 rfl ?_
    refine r_iload_n (pc := 93) B dX4_setMark_93 rfl ?_
    refine r_puti (pc := 94) B PX4_30 (shU hU) rfl dX4_setMark_94 ?_
    refine r_goto (pc := 97) B 105 dX4_setMark_97 (by decide) ?_
    exact r_vret (pc := 105) B R dX4_setMark_105 ⟨rfl, by first | (rw [nI_is h1_0 (c := 0) rfl (by omega) (by decide)]) | (rw [nI_is h1_1 (c := 1) rfl (by omega) (by decide)]) | (rw [nI_is h1_2 (c := 2) rfl (by omega) (by decide)]) | (rw [nI_is h1_3 (c := 3) rfl (by omega) (by decide)]) | (rw [nI_is h1_4 (c := 4) rfl (by omega) (by decide)]) | (rw [nI_is h1_5 (c := 5) rfl (by omega) (by decide)]) | (rw [nI_is h1_6 (c := 6) rfl (by omega) (by decide)]) | (have n0 := nI_nis (c := 0) h1_0 rfl; have n1 := nI_nis (c := 1) h1_1 rfl; have n2 := nI_nis (c := 2) h1_2 rfl; have n3 := nI_nis (c := 3) h1_3 rfl; have n4 := nI_nis (c := 4) h1_4 rfl; have n5 := nI_nis (c := 5) h1_5 rfl; have n6 := nI_nis (c := 6) h1_6 rfl; rw [show j = 7 by omega])⟩
  refine r_tsD (pc := 1) B 100 dX4_setMark_1 (by have e0 := ts_in (c := 0) h1_0 rfl; have e1 := ts_in (c := 1) h1_1 rfl; have e2 := ts_in (c := 2) h1_2 rfl; have e3 := ts_in (c := 3) h1_3 rfl; have e4 := ts_in (c := 4) h1_4 rfl; have e5 := ts_in (c := 5) h1_5 rfl; have e6 := ts_in (c := 6) h1_6 rfl; omega) (by decide) ?_
  refine r_aload_n (pc := 100) B dX4_setMark_100 rfl ?_
  refine r_iload_n (pc := 101) B dX4_setMark_101 rfl ?_
  refine r_puti (pc := 102) B PX4_33 (shU hU) rfl dX4_setMark_102 ?_
  exact r_vret (pc := 105) B R dX4_setMark_105 ⟨rfl, by first | (rw [nI_is h1_0 (c := 0) rfl (by omega) (by decide)]) | (rw [nI_is h1_1 (c := 1) rfl (by omega) (by decide)]) | (rw [nI_is h1_2 (c := 2) rfl (by omega) (by decide)]) | (rw [nI_is h1_3 (c := 3) rfl (by omega) (by decide)]) | (rw [nI_is h1_4 (c := 4) rfl (by omega) (by decide)]) | (rw [nI_is h1_5 (c := 5) rfl (by omega) (by decide)]) | (rw [nI_is h1_6 (c := 6) rfl (by omega) (by decide)]) | (have n0 := nI_nis (c := 0) h1_0 rfl; have n1 := nI_nis (c := 1) h1_1 rfl; have n2 := nI_nis (c := 2) h1_2 rfl; have n3 := nI_nis (c := 3) h1_3 rfl; have n4 := nI_nis (c := 4) h1_4 rfl; have n5 := nI_nis (c := 5) h1_5 rfl; have n6 := nI_nis (c := 6) h1_6 rfl; rw [show j = 7 by omega])⟩
set_option maxHeartbeats 4000000 in
set_option maxRecDepth 20000 in
theorem c_ssetTo (l : Launch) (G : GG) (σ : Sg) {S O : Nat} (hS : isS S) (hO : isS O) (hne : O + 4 ≤ S ∨ S + 4 ≤ O) : CtV l G mX2_setTo 1 shT [.ref (ad G S), .ref (ad G O)] σ (cpSt σ S O) := by
  refine ct_intro (by decide) (Nat.le_of_ble_eq_true rfl) (fun X B R => ?_)
  show V X G shT σ [some (.ref (ad G S)), some (.ref (ad G O))] [] 0
  refine r_aload_n (pc := 0) B dX2_setTo_0 rfl ?_
  refine r_getr (pc := 1) B FX2_9 (shS hO) rfl dX2_setTo_1 ?_
  refine r_iconst (pc := 4) (x := 0) B dX2_setTo_4 (by decide) ?_
  refine r_aload_n (pc := 5) B dX2_setTo_5 rfl ?_
  refine r_getr (pc := 6) B FX2_9 (shS hS) rfl dX2_setTo_6 ?_
  refine r_iconst (pc := 9) (x := 0) B dX2_setTo_9 (by decide) ?_
  refine r_bipush (pc := 10) (x := 16) B dX2_setTo_10 (by decide) ?_
  refine r_copy (pc := 12) (sj := 0) (dj := 0) (nj := 16) B q405 ⟨q407, q406, q12⟩ (by decide) (Nat.le_of_ble_eq_true rfl) (shS1 hO) (shS1 hS) (by decide) (by decide) (by decide) (by decide) (by decide) dX2_setTo_12 ?_
  refine r_aload_n (pc := 15) B dX2_setTo_15 rfl ?_
  refine r_getr (pc := 16) B FX2_15 (shS hO) rfl dX2_setTo_16 ?_
  refine r_iconst (pc := 19) (x := 0) B dX2_setTo_19 (by decide) ?_
  refine r_aload_n (pc := 20) B dX2_setTo_20 rfl ?_
  refine r_getr (pc := 21) B FX2_15 (shS hS) rfl dX2_setTo_21 ?_
  refine r_iconst (pc := 24) (x := 0) B dX2_setTo_24 (by decide) ?_
  refine r_bipush (pc := 25) (x := 16) B dX2_setTo_25 (by decide) ?_
  refine r_copy (pc := 27) (sj := 0) (dj := 0) (nj := 16) B q405 ⟨q407, q406, q12⟩ (by decide) (Nat.le_of_ble_eq_true rfl) (shS2 hO) (shS2 hS) (by decide) (by decide) (by decide) (by decide) (by decide) dX2_setTo_27 ?_
  refine r_aload_n (pc := 30) B dX2_setTo_30 rfl ?_
  refine r_getr (pc := 31) B FX2_18 (shS hO) rfl dX2_setTo_31 ?_
  refine r_iconst (pc := 34) (x := 0) B dX2_setTo_34 (by decide) ?_
  refine r_aload_n (pc := 35) B dX2_setTo_35 rfl ?_
  refine r_getr (pc := 36) B FX2_18 (shS hS) rfl dX2_setTo_36 ?_
  refine r_iconst (pc := 39) (x := 0) B dX2_setTo_39 (by decide) ?_
  refine r_bipush (pc := 40) (x := 16) B dX2_setTo_40 (by decide) ?_
  refine r_copy (pc := 42) (sj := 0) (dj := 0) (nj := 16) B q405 ⟨q407, q406, q12⟩ (by decide) (Nat.le_of_ble_eq_true rfl) (shS3 hO) (shS3 hS) (by decide) (by decide) (by decide) (by decide) (by decide) dX2_setTo_42 ?_
  refine r_aload_n (pc := 45) B dX2_setTo_45 rfl ?_
  refine r_aload_n (pc := 46) B dX2_setTo_46 rfl ?_
  refine r_geti (pc := 47) B FX2_21 (shS hO) rfl dX2_setTo_47 ?_
  refine r_puti (pc := 50) B PX2_21 (shS hS) rfl dX2_setTo_50 ?_
  refine r_aload_n (pc := 53) B dX2_setTo_53 rfl ?_
  refine r_aload_n (pc := 54) B dX2_setTo_54 rfl ?_
  refine r_geti (pc := 55) B FX2_25 (shS hO) rfl dX2_setTo_55 ?_
  refine r_puti (pc := 58) B PX2_25 (shS hS) rfl dX2_setTo_58 ?_
  refine r_aload_n (pc := 61) B dX2_setTo_61 rfl ?_
  refine r_aload_n (pc := 62) B dX2_setTo_62 rfl ?_
  refine r_geti (pc := 63) B FX2_28 (shS hO) rfl dX2_setTo_63 ?_
  refine r_puti (pc := 66) B PX2_28 (shS hS) rfl dX2_setTo_66 ?_
  exact r_vret (pc := 69) B R dX2_setTo_69 ⟨rfl, by clear B R X; funext a b; have n0 : (O = S) = False := eq_false (by omega); have n1 : (O = S + 1) = False := eq_false (by omega); have n2 : (O = S + 2) = False := eq_false (by omega); have n3 : (O = S + 3) = False := eq_false (by omega); have n4 : (O + 1 = S + 1) = False := eq_false (by omega); have n5 : (O + 2 = S + 1) = False := eq_false (by omega); have n6 : (O + 2 = S + 2) = False := eq_false (by omega); have n7 : (O + 3 = S + 1) = False := eq_false (by omega); have n8 : (O + 3 = S + 2) = False := eq_false (by omega); have n9 : (O + 3 = S + 3) = False := eq_false (by omega); simp only [cpSt, st2, cp2_eq, n0, n1, n2, n3, n4, n5, n6, n7, n8, n9, false_and, if_false]; clear n0 n1 n2 n3 n4 n5 n6 n7 n8 n9; grind (splits := 30)⟩

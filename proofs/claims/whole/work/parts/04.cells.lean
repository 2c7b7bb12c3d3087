/-! fields -/
/-- the entry idx of own's pool is field i of class ci -/
def FF (own : String) (idx ci i : Nat) : Prop := ∃ (C : String) (Tt : u_T) (N : Nat) (ty0 : Nat → FieldType), vwCl[ci]? = some (C, Tt, N) ∧ i < N ∧ Cond.fieldLink own idx (Tt i).1 (Tt i).2.1 (Tt i).2.2.1 ∈ lwg ∧ (∀ w ∈ u_ws C Tt N, w ∈ lwg) ∧ (∀ k, k < N → parseFieldDescriptor (Tt k).2.2.1 = some (ty0 k)) ∧ (∀ a, a < N → ∀ b, b < N → a ≠ b → (Tt a).2.1 ≠ (Tt b).2.1)
/-- and it is no final one, of type d -/
def FP (own : String) (idx ci i : Nat) (d : String) : Prop := ∃ (C : String) (Tt : u_T) (N : Nat) (ty0 : Nat → FieldType), (vwCl[ci]? = some (C, Tt, N) ∧ i < N ∧ Cond.fieldLink own idx (Tt i).1 (Tt i).2.1 (Tt i).2.2.1 ∈ lwg ∧ (∀ w ∈ u_ws C Tt N, w ∈ lwg) ∧ (∀ k, k < N → parseFieldDescriptor (Tt k).2.2.1 = some (ty0 k)) ∧ (∀ a, a < N → ∀ b, b < N → a ≠ b → (Tt a).2.1 ≠ (Tt b).2.1)) ∧ (Tt i).2.2.2 = false ∧ (Tt i).2.2.1 = d
/-- an index within an array, as a number -/
def ix (i : Int32) (n j : Nat) : Prop := vp_in i n ∧ i.toNatClampNeg = j
section RF
variable {l : Launch} {X : CX} {G : GG} {T : List Sh} {σ : Sg} {L : List (Option Value)} {st : List Value} {pc : Nat} {b : ByteArray} {own : String} {nL D : Nat}
theorem r_get (B : Bd l X G b own nL D) {idx ci i k : Nat} {fs : List (Option (Option Nat))} {x : Option (Option Nat)} (F : FF own idx ci i) (hT : T[k]? = some (.inl (ci, fs))) (hf : fs[i]? = some x) (d : decode b pc = .ok (.getfield idx, 3)) (kk : V X G T σ L (fv G (σ k) i x :: st) (pc + 3)) : V X G T σ L (.ref (ad G k) :: st) pc := fun H locs ls hP hS hl => by
  obtain ⟨C, Tt, N, ty0, hc, hi, hw, hu, -, -⟩ := F
  exact va_get (D := G.1) (cl := vwCl) (ci := ci) (C := C) (T := Tt) (N := N) B.1 B.2.1 B.2.2.2.1 hu B.2.2.1 B.2.2.2.2.1.1 hP k (wl_at hT) hc i hi (B.2.2.2.1 _ hw) (fun _ h => h) (vl_at hf) d (kk H locs ls hP hS hl)
theorem r_geti (B : Bd l X G b own nL D) {idx ci i k : Nat} {fs : List (Option (Option Nat))} (F : FF own idx ci i) (hT : T[k]? = some (.inl (ci, fs))) (hf : fs[i]? = some none) (d : decode b pc = .ok (.getfield idx, 3)) (kk : V X G T σ L (.int (σ k i) :: st) (pc + 3)) : V X G T σ L (.ref (ad G k) :: st) pc := r_get B F hT hf d kk
theorem r_getr (B : Bd l X G b own nL D) {idx ci i k j : Nat} {fs : List (Option (Option Nat))} (F : FF own idx ci i) (hT : T[k]? = some (.inl (ci, fs))) (hf : fs[i]? = some (some (some j))) (d : decode b pc = .ok (.getfield idx, 3)) (kk : V X G T σ L (.ref (ad G j) :: st) (pc + 3)) : V X G T σ L (.ref (ad G k) :: st) pc := r_get B F hT hf d kk
theorem Pic.put {H1 : Heap} {k i : Nat} {ci : Nat} {fs : List (Option (Option Nat))} {v : Int32} (hT : T[k]? = some (.inl (ci, fs))) (hf : fs[i]? = some none) (h : va_P G.1 vwCl ((wl G T σ).set k (ad G k, .inr (ci, (vl G (σ k) fs).set i (.int v)))) H1) : Pic G T (st2 σ k i v) H1 := by
  rw [vl_set hf] at h
  have e := wl_set (G := G) (σ := σ) hT (upd (σ k) i v)
  rw [show ce G (upd (σ k) i v) (.inl (ci, fs)) = .inr (ci, vl G (upd (σ k) i v) fs) from rfl] at e
  rw [e, st2_eq] at h
  exact h
theorem r_putw (B : Bd l X G b own nL D) {idx ci i k : Nat} {fs : List (Option (Option Nat))} {v : Int32} {ty : FieldType} {dd : String} (F : FP own idx ci i dd) (hty : parseFieldDescriptor dd = some ty) (hn : narrow ty (.int v) = .int v) (hfi : fits ty (.int v) = true) (hT : T[k]? = some (.inl (ci, fs))) (hf : fs[i]? = some none) (d : decode b pc = .ok (.putfield idx, 3)) (kk : V X G T (st2 σ k i v) L st (pc + 3)) : V X G T σ L (.int v :: .ref (ad G k) :: st) pc := fun H locs ls hP hS hl => by
  obtain ⟨C, Tt, N, ty0, ⟨hc, hi, hw, hu, ht0, hnm⟩, hfin, hdd⟩ := F
  have hlen : i < (vl G (σ k) fs).length := by simp [vl]; exact (List.getElem?_eq_some_iff.mp hf).1
  have hap := va_apart (own := own) B.2.2.2.1 hu ty0 ht0 hnm B.2.2.2.2.1.1 hc
  obtain ⟨r, h1, cell, q1, q2, q3, q4⟩ := hP k _ (wl_at hT)
  have hr : r = (C, Tt, N) := Option.some.inj (h1.symm.trans hc)
  subst hr
  obtain ⟨hS1, hfc, kC, hkC, hkind⟩ := B.2.2.2.2.1.1.1 ci _ hc
  obtain ⟨cf, kf, fi, f, hi1, hsl⟩ := hS1 i hi
  have hlay := B.2.2.2.1 _ (hu _ (u_in_lay hi))
  unfold u_lay at hlay
  rw [if_neg (by rw [hfin]; decide)] at hlay
  have hst := (u_facts hfc hkC (u_lays B.2.2.2.1 hu hi) hi1).1
  have h6 := u_store hfc hkC hkind hlay hi1 (by rw [hdd]; exact hty) hn hfi
  refine W.putK B.1 B.2.1 (f := f) ⟨B.2.2.1, B.2.2.2.1 _ hw, ⟨_, _, _, hi1⟩, hst⟩ (by rw [q2]; exact h6) q1 q3 (by rw [hsl]; exact k2_hasslot (q4 i hi)) rfl rfl d fun H' e1 e2 e3 => ?_
  rw [hsl] at e1 ⊢
  refine kk H' _ ls (Pic.put hT hf (hP.set wl_D (wl_at hT) ⟨_, hc, t_OB.to (V := updV (vp_V (vl G (σ k) fs)) i (.int v)) ⟨_, e1, q2, q3, t_set q4 hap hi (.int v)⟩ (fun j _ => vp_updV_set hlen (.int v) j)⟩ e3)) (hS.put e2 e3 (wl_D.2 k _ (wl_at (G := G) (σ := σ) hT))) hl
theorem r_puti (B : Bd l X G b own nL D) {idx ci i k : Nat} {fs : List (Option (Option Nat))} {v : Int32} (F : FP own idx ci i "I") (hT : T[k]? = some (.inl (ci, fs))) (hf : fs[i]? = some none) (d : decode b pc = .ok (.putfield idx, 3)) (kk : V X G T (st2 σ k i v) L st (pc + 3)) : V X G T σ L (.int v :: .ref (ad G k) :: st) pc := r_putw B F (ty := .int) (by decide +kernel) rfl rfl hT hf d kk
theorem r_putz (B : Bd l X G b own nL D) {idx ci i k : Nat} {fs : List (Option (Option Nat))} {v : Int32} (F : FP own idx ci i "Z") (hv : v = 0 ∨ v = 1) (hT : T[k]? = some (.inl (ci, fs))) (hf : fs[i]? = some none) (d : decode b pc = .ok (.putfield idx, 3)) (kk : V X G T (st2 σ k i v) L st (pc + 3)) : V X G T σ L (.int v :: .ref (ad G k) :: st) pc := r_putw B F (ty := .boolean) (by decide +kernel) (by rcases hv with rfl | rfl <;> rfl) (by rcases hv with rfl | rfl <;> rfl) hT hf d kk
/-! arrays -/
theorem ix_nI {n N : Nat} (h : n < N) (hN : N < 2 ^ 31) : ix (nI n) N n := ⟨vp_in_nI h hN, nI_clamp (by omega)⟩
theorem r_iald (B : Bd l X G b own nL D) {k n j : Nat} {i : Int32} (hT : T[k]? = some (.inr (.inl n))) (hi : ix i n j) (d : decode b pc = .ok (.iaload, 1)) (kk : V X G T σ L (.int (σ k j) :: st) (pc + 1)) : V X G T σ L (.int i :: .ref (ad G k) :: st) pc := fun H locs ls hP hS hl => by
  obtain ⟨h1, rfl⟩ := hi
  exact va_iald (D := G.1) (cl := vwCl) B.1 B.2.1 B.2.2.2.2.1.1 hP k 0 (wl_at hT) rfl h1 d (kk H locs ls hP hS hl)
theorem r_iast (B : Bd l X G b own nL D) {k n j : Nat} {i v : Int32} (hT : T[k]? = some (.inr (.inl n))) (hi : ix i n j) (d : decode b pc = .ok (.iastore, 1)) (kk : V X G T (st2 σ k j v) L st (pc + 1)) : V X G T σ L (.int v :: .int i :: .ref (ad G k) :: st) pc := fun H locs ls hP hS hl => by
  obtain ⟨h1, rfl⟩ := hi
  refine W.iast B.1 B.2.1 (hP k _ (wl_at hT)) ((B.2.2.2.2.1.1.2 0 (G.2.1 0, .int) rfl).1 n (fun j => .int (σ k j))) (fun q => by cases q) (by show ¬ (i < 0 ∨ (arrV _ _ _).slots.size ≤ _); rw [arrV_size]; exact h1) rfl rfl d fun H1 e z oq => ?_
  have hat : va_at G.1 vwCl (ad G k, ce G (upd (σ k) i.toNatClampNeg v) (.inr (.inl n))) H1 := by
    show H1[_]? = some (vp_cell _ _)
    rw [e]
    show some ((vp_cell (G.2.1 0) (n, .inl (σ k))).setSlot _ _) = some (vp_cell (G.2.1 0) (n, .inl (upd (σ k) i.toNatClampNeg v)))
    rw [vp_cell_i, vp_cell_i, arrV_store]
    congr 2
    funext q
    by_cases hq : q = i.toNatClampNeg
    · subst hq
      simp [updV, upd]
    · simp [updV, upd, hq]
  have h3 := hP.set wl_D (wl_at hT) hat oq
  rw [wl_set hT, st2_eq] at h3
  exact kk H1 _ ls h3 (hS.put z oq (wl_D.2 k _ (wl_at (G := G) (σ := σ) hT))) hl
theorem r_alen (B : Bd l X G b own nL D) {k n : Nat} (hT : T[k]? = some (.inr (.inl n))) (d : decode b pc = .ok (.arraylength, 1)) (kk : V X G T σ L (.int (nI n) :: st) (pc + 1)) : V X G T σ L (.ref (ad G k) :: st) pc := fun H locs ls hP hS hl => va_alen (D := G.1) (cl := vwCl) B.1 B.2.1 B.2.2.2.2.1.1 hP k 0 (wl_at hT) (ty := .int) rfl rfl d (kk H locs ls hP hS hl)
theorem r_aald (B : Bd l X G b own nL D) {k c j q : Nat} {C : String} {js : List (Option Nat)} {i : Int32} (hT : T[k]? = some (.inr (.inr (c, js)))) (hc : (tyL G)[c]? = some (G.2.1 c, .object C)) (hi : ix i js.length j) (hj : js[j]? = some (some q)) (d : decode b pc = .ok (.aaload, 1)) (kk : V X G T σ L (.ref (ad G q) :: st) (pc + 1)) : V X G T σ L (.int i :: .ref (ad G k) :: st) pc := fun H locs ls hP hS hl => by
  obtain ⟨h1, rfl⟩ := hi
  refine va_aldq (D := G.1) (cl := vwCl) (f := fun i => ((js[i]?).getD none).map (ad G)) B.1 B.2.1 B.2.2.2.2.1.1 hP k c (wl_at hT) hc h1 d ?_
  have e : va_rf ((fun i => ((js[i]?).getD none).map (ad G)) i.toNatClampNeg) = .ref (ad G q) := by
    show va_rf (((js[i.toNatClampNeg]?).getD none).map (ad G)) = _
    rw [hj]; rfl
  rw [e]
  exact kk H locs ls hP hS hl
/-! the two tables -/
theorem r_gs (B : Bd l X G b own nL D) {idx : Nat} (w : Cond.fieldLink own idx "InsideOut" "GREATEST" "[I" ∈ lwg) (d : decode b pc = .ok (.getstatic idx, 3)) (kk : V X G T σ L (.ref G.2.2.2.2.2.1 :: st) (pc + 3)) : V X G T σ L st pc := fun H locs ls hP hS hl => va_gets B.1 B.2.1 B.2.2.2.2.1.2.1.1 hS B.2.2.1 (B.2.2.2.1 _ w) (fun _ h => h) d (kk H locs ls hP hS hl)
theorem r_gk (B : Bd l X G b own nL D) {idx : Nat} (w : Cond.fieldLink own idx "InsideOut" "KIND_ABOVE" "[I" ∈ lwg) (d : decode b pc = .ok (.getstatic idx, 3)) (kk : V X G T σ L (.ref G.2.2.2.2.2.2 :: st) (pc + 3)) : V X G T σ L st pc := fun H locs ls hP hS hl => va_gets B.1 B.2.1 B.2.2.2.2.1.2.1.2.2.1 hS B.2.2.1 (B.2.2.2.1 _ w) (fun _ h => h) d (kk H locs ls hP hS hl)
theorem r_gsN (B : Bd l X G b own nL D) {idx : Nat} (w : Cond.fieldLinkNest own idx "InsideOut" "GREATEST" "[I" "InsideOut" ∈ nW) (d : decode b pc = .ok (.getstatic idx, 3)) (kk : V X G T σ L (.ref G.2.2.2.2.2.1 :: st) (pc + 3)) : V X G T σ L st pc := fun H locs ls hP hS hl => va_getsN B.1 B.2.1 B.2.2.2.2.1.2.1.1 hS B.2.2.1 (va_Nw.use rfl (B.2.2.2.2.1.2.2.1 _ w)) (fun _ h => h) d (kk H locs ls hP hS hl)
theorem r_tg (B : Bd l X G b own nL D) {i v : Int32} (j : Nat) (hi : ix i 8 j) (hv : gT j = .int v) (d : decode b pc = .ok (.iaload, 1)) (kk : V X G T σ L (.int v :: st) (pc + 1)) : V X G T σ L (.int i :: .ref G.2.2.2.2.2.1 :: st) pc := fun H locs ls hP hS hl => by
  obtain ⟨h1, rfl⟩ := hi
  exact va_ti B.1 B.2.1 B.2.2.2.2.1.2.1.2.1 hS h1 hv d (kk H locs ls hP hS hl)
theorem r_tk (B : Bd l X G b own nL D) {i v : Int32} (j : Nat) (hi : ix i 7 j) (hv : kT j = .int v) (d : decode b pc = .ok (.iaload, 1)) (kk : V X G T σ L (.int v :: st) (pc + 1)) : V X G T σ L (.int i :: .ref G.2.2.2.2.2.2 :: st) pc := fun H locs ls hP hS hl => by
  obtain ⟨h1, rfl⟩ := hi
  exact va_ti B.1 B.2.1 B.2.2.2.2.1.2.1.2.2.2.1 hS h1 hv d (kk H locs ls hP hS hl)
/-! Math, arraycopy -/
def sm (st : List Value) : Nat := (st.map fun v => v.category).sum
theorem r_max (B : Bd l X G b own nL D) {idx : Nat} {x y : Int32} (w : Cond.methodLink own idx Lib.Math.max.name ∈ lwg) (hw : Cond.static Lib.Math.max.name ∈ lwg ∧ Cond.initialized "java/lang/Math" ∈ lwg ∧ Cond.code Lib.Math.max.name Lib.Math.max.code 2 (some .int) ∈ lwg) (hD : 1 ≤ D) (hs : sm st ≤ 8) (d : decode b pc = .ok (.invokestatic idx, 3)) (kk : V X G T σ L (.int (if x < y then y else x) :: st) (pc + 3)) : V X G T σ L (.int y :: .int x :: st) pc := fun H locs ls hP hS hl => by
  have h1 := B.2.2.2.2.2.2.1
  have h2 : sm st + 13 ≤ (xR X).locals := by omega
  have h3 : 1 ≤ (xR X).frames := by omega
  exact va_mmax B.1 B.2.1 hl.1.symm B.2.2.1 (B.2.2.2.1 _ w) (B.2.2.2.1 _ hw.1) (B.2.2.2.1 _ hw.2.1) (B.2.2.2.1 _ hw.2.2) h3 h2 B.2.2.2.2.2.2.2.1 B.2.2.2.2.2.2.2.2.1 d (kk H locs ls hP hS hl)
theorem r_min (B : Bd l X G b own nL D) {idx : Nat} {x y : Int32} (w : Cond.methodLink own idx Lib.Math.min.name ∈ lwg) (hw : Cond.static Lib.Math.min.name ∈ lwg ∧ Cond.initialized "java/lang/Math" ∈ lwg ∧ Cond.code Lib.Math.min.name Lib.Math.min.code 2 (some .int) ∈ lwg) (hD : 1 ≤ D) (hs : sm st ≤ 8) (d : decode b pc = .ok (.invokestatic idx, 3)) (kk : V X G T σ L (.int (if y < x then y else x) :: st) (pc + 3)) : V X G T σ L (.int y :: .int x :: st) pc := fun H locs ls hP hS hl => by
  have h1 := B.2.2.2.2.2.2.1
  have h2 : sm st + 13 ≤ (xR X).locals := by omega
  have h3 : 1 ≤ (xR X).frames := by omega
  exact va_mmin B.1 B.2.1 hl.1.symm B.2.2.1 (B.2.2.2.1 _ w) (B.2.2.2.1 _ hw.1) (B.2.2.2.1 _ hw.2.1) (B.2.2.2.1 _ hw.2.2) h3 h2 B.2.2.2.2.2.2.2.1 B.2.2.2.2.2.2.2.2.1 d (kk H locs ls hP hS hl)
/-- n numbers of cell a from sp on come to cell c from dp on -/
def cp2 (σ : Sg) (a sp c dp n : Nat) : Sg := va_up σ c (va_cpy (σ a) (σ c) sp dp n)
theorem r_copy (B : Bd l X G b own nL D) {idx a c na nc sj dj nj : Nat} {sp dp n : Int32} (w : Cond.methodLink own idx arraycopyName ∈ lwg) (hw : Cond.native arraycopyName ∈ lwg ∧ Cond.static arraycopyName ∈ lwg ∧ Cond.initialized "java/lang/System" ∈ lwg) (hD : 1 ≤ D) (hs : sm st ≤ 8) (hTa : T[a]? = some (.inr (.inl na))) (hTc : T[c]? = some (.inr (.inl nc))) (h1 : ¬ sp < 0 ∧ sp.toNatClampNeg = sj) (h2 : ¬ dp < 0 ∧ dp.toNatClampNeg = dj) (h3 : ¬ n < 0 ∧ n.toNatClampNeg = nj) (h4 : sj + nj ≤ na) (h5 : dj + nj ≤ nc) (d : decode b pc = .ok (.invokestatic idx, 3)) (kk : V X G T (cp2 σ a sj c dj nj) L st (pc + 3)) : V X G T σ L (.int n :: .int dp :: .ref (ad G c) :: .int sp :: .ref (ad G a) :: st) pc := fun H locs ls hP hS hl => by
  have hB := B.2.2.2.2.2.2.1
  have hnw : nativeFrameWords "java/lang/System" "arraycopy" 5 ≤ 18 := by decide +kernel
  have h6 : 1 ≤ (xR X).frames := by omega
  have h7 : sm st + (nativeFrameWords "java/lang/System" "arraycopy" 5 + 11) ≤ (xR X).locals := by omega
  obtain ⟨h1, rfl⟩ := h1
  obtain ⟨h2, rfl⟩ := h2
  obtain ⟨h3, rfl⟩ := h3
  refine va_copyi (D := G.1) (cl := vwCl) (f := σ a) (g := σ c) B.1 B.2.1 hl.1.symm B.2.2.1 (B.2.2.2.1 _ w) (B.2.2.2.1 _ hw.1) (B.2.2.2.1 _ hw.2.1) (B.2.2.2.1 _ hw.2.2) B.2.2.2.2.1.1 hP wl_D ⟨hS.1, hS.2.1, hS.2.2⟩ a c 0 0 (wl_at hTa) (wl_at hTc) rfl rfl rfl h1 h2 h3 h4 h5 (fun _ _ => rfl) h6 h7 d (fun H1 locs1 hP1 hD1 hS1 => ?_)
  have e := wl_set (G := G) (σ := σ) hTc (va_cpy (σ a) (σ c) sp.toNatClampNeg dp.toNatClampNeg n.toNatClampNeg)
  rw [show ce G (va_cpy (σ a) (σ c) sp.toNatClampNeg dp.toNatClampNeg n.toNatClampNeg) (.inr (.inl nc)) = .inl (G.2.1 0, nc, .inl (va_cpy (σ a) (σ c) sp.toNatClampNeg dp.toNatClampNeg n.toNatClampNeg)) from rfl] at e
  rw [e] at hP1
  exact kk H1 locs1 ls hP1 hS1 hl
end RF

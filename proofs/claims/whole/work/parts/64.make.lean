/-! bodies that make cells: the table of shapes grows, and how large the heap is follows from what was made -/
set_option maxRecDepth 20000 in
theorem q24 : Cond.instanceMethod ⟨"java/lang/Object", "<init>", "()V"⟩ ∈ lwg := tG 24 (by decide +kernel) (by decide +kernel)
abbrev nl : Option (Option Nat) := some none
def cx (X : CX) (k n : Nat) : CX := (xp X, xl X, xe X, xR X, xs X, xm X, xa X, xb X, xM X, xc X, k, n, xQ X)
theorem Bd.mv {l : Launch} {X : CX} {G : GG} {b : ByteArray} {own : String} {nL D k n k' n' : Nat} (B : Bd l (cx X k n) G b own nL D) (hk : k' ≤ (xR X).cells) (hn : n' ≤ (xR X).slots) : Bd l (cx X k' n') G b own nL D := ⟨B.1, B.2.1, B.2.2.1, B.2.2.2.1, B.2.2.2.2.1, B.2.2.2.2.2.1, B.2.2.2.2.2.2.1, hk, hn, B.2.2.2.2.2.2.2.2.2⟩
theorem sz_of {X : CX} {G : GG} {T : List Sh} {σ : Sg} {H : Heap} {locs : List Loc} {k n z : Nat} {U : State} (hl : T.length = z) (hz : (xs X).heap.size + k = ad G z) (h0 : z = 0 → k = 0) (hP : Pic G T σ H) (hS : va_S (AA G) (xs X).heap H locs) (hU : U.heap = H) (S : Stand (xp X) (xl X) (xe X) (xR X) (xs X) (xm X) (xa X) (xb X) (xM X) (xc X) U locs k n) : H.size = ad G z := by
  have up := S.heapSize
  rw [hU, hz] at up
  refine Nat.le_antisymm up ?_
  rcases Nat.eq_zero_or_pos z with h | h
  · have hk := h0 h
    rw [← hz, hk, Nat.add_zero]
    exact hS.1
  · have hlt : z - 1 < T.length := by omega
    have lt : ad G (z - 1) < H.size := (hP (z - 1) _ (wl_at (List.getElem?_eq_getElem hlt))).lt
    have e : ad G z = ad G (z - 1) + 1 := by unfold ad; omega
    rw [e]
    exact lt
theorem w_sz {X : CX} {G : GG} {T : List Sh} {σ : Sg} {H : Heap} {locs : List Loc} {k n z : Nat} {Q : State → Prop} {g : JFrame} (hl : T.length = z) (hz : (xs X).heap.size + k = ad G z) (h0 : z = 0 → k = 0) (hP : Pic G T σ H) (hS : va_S (AA G) (xs X).heap H locs) (kk : H.size = ad G z → W (xp X) (xl X) (xe X) (xR X) (xs X) (xm X) (xa X) (xb X) (xM X) (xc X) H locs k n Q g) : W (xp X) (xl X) (xe X) (xR X) (xs X) (xm X) (xa X) (xb X) (xM X) (xc X) H locs k n Q g := fun U hU S => kk (sz_of hl hz h0 hP hS hU S) U hU S
theorem Pic.app {G : GG} {T : List Sh} {σ : Sg} {H H1 : Heap} {z : Nat} {sh : Sh} (hl : T.length = z) (hP : Pic G T σ H) (o1 : ∀ q, q < H.size → H1[q]? = H[q]?) (h : va_at G.1 vwCl (ad G z, ce G (σ z) sh) H1) : Pic G (T ++ [sh]) σ H1 := by
  have hP1 : Pic G T σ H1 := hP.kept (fun k x hx => o1 x.1 ((hP k x hx).lt))
  subst hl
  intro k q hq
  simp only [wl, List.getElem?_mapIdx] at hq
  by_cases hk : k < T.length
  · rw [List.getElem?_append_left hk] at hq
    exact hP1 k q (by simp only [wl, List.getElem?_mapIdx]; exact hq)
  · rw [List.getElem?_append_right (by omega)] at hq
    cases hT : ([sh] : List Sh)[k - T.length]? with
    | none => rw [hT] at hq; cases hq
    | some s2 =>
      have hz : k - T.length < 1 := (List.getElem?_eq_some_iff.mp hT).1
      have e : k = T.length := by omega
      subst e
      rw [Nat.sub_self] at hT hq
      cases hT
      cases hq
      exact h
def zz (σ : Sg) (b : Nat) : Prop := ∀ k, b ≤ k → ∀ i, σ k i = 0
theorem zz.le {σ : Sg} {b c : Nat} (h : zz σ b) (hc : b ≤ c) : zz σ c := fun k hk i => h k (by omega) i
theorem zz.st {σ : Sg} {b k i : Nat} {v : Int32} (h : zz σ b) (hk : k < b) : zz (st2 σ k i v) b := fun q hq j => by rw [st2_cl _ _ _ _ (by omega)]; exact h q hq j
theorem zz.fl {σ : Sg} {b k n : Nat} {v : Int32} (h : zz σ b) (hk : k < b) : zz (fillS σ k n v) b := fun q hq j => by rw [fill_ne (by omega)]; exact h q hq j
/-- a final reference of the class's own -/
def FI (own : String) (idx ci i : Nat) : Prop := ∃ (C : String) (Tt : u_T) (N : Nat) (ty0 : Nat → FieldType) (ty : FieldType), (vwCl[ci]? = some (C, Tt, N) ∧ i < N ∧ Cond.fieldLink own idx (Tt i).1 (Tt i).2.1 (Tt i).2.2.1 ∈ lwg ∧ (∀ w ∈ u_ws C Tt N, w ∈ lwg) ∧ (∀ k, k < N → parseFieldDescriptor (Tt k).2.2.1 = some (ty0 k)) ∧ (∀ a, a < N → ∀ b, b < N → a ≠ b → (Tt a).2.1 ≠ (Tt b).2.1)) ∧ (Tt i).2.2.2 = true ∧ (Tt i).1 = own ∧ parseFieldDescriptor (Tt i).2.2.1 = some ty ∧ ∀ a : Nat, narrow ty (.ref a) = .ref a ∧ fits ty (.ref a) = true
theorem wl_shape {G : GG} {T : List Sh} {σ : Sg} {k : Nat} (sh : Sh) (h : k < T.length) : (wl G T σ).set k (ad G k, ce G (σ k) sh) = wl G (T.set k sh) σ := by
  refine List.ext_getElem? fun j => ?_
  simp only [wl, List.getElem?_mapIdx, List.getElem?_set, List.length_mapIdx]
  by_cases hj : k = j
  · subst hj
    simp [h]
  · simp [hj]
theorem vl_setr {G : GG} {f : Nat → Int32} {fs : List (Option (Option Nat))} {i j : Nat} : (vl G f fs).set i (.ref (ad G j)) = vl G f (fs.set i (some (some j))) := by
  refine List.ext_getElem? fun q => ?_
  simp only [vl, List.getElem?_mapIdx, List.getElem?_set, List.length_mapIdx]
  by_cases hq : i = q
  · subst hq
    by_cases h : i < fs.length
    · simp [h, fv]
    · simp [h]
  · simp [hq]
section MK
variable {l : Launch} {X : CX} {G : GG} {σ : Sg} {L : List (Option Value)} {st : List Value} {pc k n : Nat} {b : ByteArray} {own : String} {nL D : Nat} {T0 loc loc' : List Sh} {S m : Nat}
theorem u_new (B : Bd l (cx X k n) G b own nL D) (hS : T0.length = S) (hm : loc.length = m) (hz : (xs X).heap.size + k = ad G (S + m)) (h0 : S + m = 0 → k = 0) {ci N idx : Nat} {C : String} {Tt : u_T} (ty : Nat → FieldType) {fs : List (Option (Option Nat))} (hc : vwCl[ci]? = some (C, Tt, N)) (hu : ∀ w ∈ u_ws C Tt N, w ∈ lwg) (hty : ∀ j, j < N → parseFieldDescriptor (Tt j).2.2.1 = some (ty j)) (hlk : Cond.classLink own idx C ∈ lwg) (hins : Cond.instantiable C N ∈ lwg) (hini : Cond.initialized C ∈ lwg) (hfs : ∀ j, j < N → defaultValue (ty j) = vp_V (vl G (fun _ => 0) fs) j) (hσ : ∀ i, σ (S + m) i = 0) (hk : k + 1 ≤ (xR X).cells) (hn : n + N ≤ (xR X).slots) (he : loc ++ [.inl (ci, fs)] = loc') (d : decode b pc = .ok (.new idx, 3)) (kk : V (cx X (k + 1) (n + N)) G (T0 ++ loc') σ L (.ref (ad G (S + m)) :: st) (pc + 3)) : V (cx X k n) G (T0 ++ loc) σ L st pc := fun H locs ls hP hSS hl => by
  have hlen : (T0 ++ loc).length = S + m := by rw [List.length_append, hS, hm]
  refine w_sz (X := X) hlen hz h0 hP hSS (fun hsz => ?_)
  have hKn := B.2.2.2.2.1.1.1 ci _ hc
  refine W.newcK B.1 B.2.1 B.2.2.1 (B.2.2.2.1 _ hlk) (B.2.2.2.1 _ hins) (B.2.2.2.1 _ hini) rfl d hk hn hKn.2.1 hsz fun H1 kC hkC e1 z1 o1 => ?_
  have o2 : ∀ q, q < H.size → H1[q]? = H[q]? := fun q hq => o1 q (by rw [← hsz]; exact hq)
  refine kk H1 locs ls ?_ ⟨Nat.le_trans hSS.1 (by omega), fun x h1 h2 => (o2 x (Nat.lt_of_lt_of_le h1 hSS.1)).trans (hSS.2.1 x h1 h2), hSS.2.2⟩ hl
  rw [← he, ← List.append_assoc]
  refine Pic.app hlen hP o2 ?_
  rw [show σ (S + m) = fun _ => 0 from funext hσ]
  exact ⟨_, hc, (u_born ty B.2.2.2.1 hu hKn hkC e1 hty).to hfs⟩
theorem u_newa (B : Bd l (cx X k n) G b own nL D) (hS : T0.length = S) (hm : loc.length = m) (hz : (xs X).heap.size + k = ad G (S + m)) (h0 : S + m = 0 → k = 0) {N : Nat} {x : Int32} (hx : x = nI N) (hN : N ≤ 1000) (hσ : ∀ i, σ (S + m) i = 0) (hk : k + 1 ≤ (xR X).cells) (hn : n + N ≤ (xR X).slots) (he : loc ++ [ia N] = loc') (d : decode b pc = .ok (.newarray .int, 2)) (kk : V (cx X (k + 1) (n + N)) G (T0 ++ loc') σ L (.ref (ad G (S + m)) :: st) (pc + 2)) : V (cx X k n) G (T0 ++ loc) σ L (.int x :: st) pc := fun H locs ls hP hSS hl => by
  have hlen : (T0 ++ loc).length = S + m := by rw [List.length_append, hS, hm]
  refine w_sz (X := X) hlen hz h0 hP hSS (fun hsz => ?_)
  subst hx
  refine va_newaK (atype := .int) (N := N) B.1 B.2.1 (B.2.2.2.1 _ q76) rfl d rfl (nI_pos (by omega)) (nI_clamp (by omega)) (by show N * 4 ≤ 536870912; omega) hk hn hsz fun H1 cA e1 z1 o1 hAr hNm => ?_
  have o2 : ∀ q, q < H.size → H1[q]? = H[q]? := fun q hq => o1 q (by rw [← hsz]; exact hq)
  refine kk H1 locs ls ?_ ⟨Nat.le_trans hSS.1 (by omega), fun x h1 h2 => (o2 x (Nat.lt_of_lt_of_le h1 hSS.1)).trans (hSS.2.1 x h1 h2), hSS.2.2⟩ hl
  have hcA : cA = G.2.1 0 := Option.some.inj (hNm.symm.trans (B.2.2.2.2.1.1.2 0 (G.2.1 0, .int) rfl).2)
  rw [← he, ← List.append_assoc]
  refine Pic.app hlen hP o2 ?_
  rw [show σ (S + m) = fun _ => 0 from funext hσ]
  show H1[ad G (S + m)]? = some (vp_cell (G.2.1 0) (N, .inl (fun _ => 0)))
  rw [e1, hcA, vp_cell_i]
  rfl
theorem u_newq (B : Bd l (cx X k n) G b own nL D) (hS : T0.length = S) (hm : loc.length = m) (hz : (xs X).heap.size + k = ad G (S + m)) (h0 : S + m = 0 → k = 0) {N idx c : Nat} {C : String} {x : Int32} {js : List (Option Nat)} (hc : (tyL G)[c]? = some (G.2.1 c, .object C)) (hlk : Cond.classLink own idx C ∈ lwg) (hao : va_AO C (xs X)) (hx : x = nI N) (hN : N ≤ 1000) (hj : js.length = N) (hjn : ∀ i : Nat, (js[i]?).getD none = none) (hk : k + 1 ≤ (xR X).cells) (hn : n + N ≤ (xR X).slots) (he : loc ++ [.inr (.inr (c, js))] = loc') (d : decode b pc = .ok (.anewarray idx, 3)) (kk : V (cx X (k + 1) (n + N)) G (T0 ++ loc') σ L (.ref (ad G (S + m)) :: st) (pc + 3)) : V (cx X k n) G (T0 ++ loc) σ L (.int x :: st) pc := fun H locs ls hP hSS hl => by
  have hlen : (T0 ++ loc).length = S + m := by rw [List.length_append, hS, hm]
  refine w_sz (X := X) hlen hz h0 hP hSS (fun hsz => ?_)
  subst hx
  have hcl : (nI N).toNatClampNeg = N := nI_clamp (by omega)
  refine W.anew B.1 B.2.1 B.2.2.1 (B.2.2.2.1 _ hlk) (va_AO.use hao) rfl d rfl (nI_pos (by omega)) (by rw [hcl]; omega) hk (by rw [hcl]; exact hn) fun cA kA comp f1 f2 f3 f4 => ?_
  generalize hH1 : H.push ({ cls := cA, slots := Array.replicate (nI N).toNatClampNeg .null, vm := .none } : Cell) = H1
  rw [hcl] at hH1 ⊢
  have z1 : H1.size = H.size + 1 := by rw [← hH1, Array.size_push]
  have e1 : H1[H.size]? = some (arrV cA N (fun _ => .null)) := by rw [← hH1, Array.getElem?_push_size, ← arrV_new]
  have o2 : ∀ q : Nat, q < H.size → H1[q]? = H[q]? := fun q hq => by rw [← hH1, Array.getElem?_push, if_neg (Nat.ne_of_lt hq)]
  obtain ⟨-, kA2, comp2, -, -, -, g4⟩ := B.2.2.2.2.1.1.2 c _ hc
  have hcA : cA = G.2.1 c := Option.some.inj (f1.symm.trans g4)
  rw [hsz] at e1 ⊢
  refine kk H1 locs ls ?_ ⟨Nat.le_trans hSS.1 (by omega), fun x h1 h2 => (o2 x (Nat.lt_of_lt_of_le h1 hSS.1)).trans (hSS.2.1 x h1 h2), hSS.2.2⟩ hl
  rw [← he, ← List.append_assoc]
  refine Pic.app hlen hP o2 ?_
  show H1[ad G (S + m)]? = some (vp_cell (G.2.1 c) (js.length, .inr (.inr (.inr (.inr (fun i => ((js[i]?).getD none).map (ad G)))))))
  rw [e1, hcA, vp_cell_q, hj]
  simp only [hjn]
  rfl
theorem u_putr (B : Bd l (cx X k n) G b own nL D) (hnm : (xM X).name = "<init>") (hS : T0.length = S) {idx ci i j : Nat} {fs : List (Option (Option Nat))} (F : FI own idx ci i) (hT : loc[m]? = some (.inl (ci, fs))) (hf : i < fs.length) (he : loc.set m (.inl (ci, fs.set i (some (some j)))) = loc') (d : decode b pc = .ok (.putfield idx, 3)) (kk : V (cx X k n) G (T0 ++ loc') σ L st (pc + 3)) : V (cx X k n) G (T0 ++ loc) σ L (.ref (ad G j) :: .ref (ad G (S + m)) :: st) pc := fun H locs ls hP hSS hl => by
  obtain ⟨C, Tt, N, ty0, ty, ⟨hc, hi, hw, hu, ht0, hn2⟩, hfin, hdecl, hd, hnf⟩ := F
  have hT2 : (T0 ++ loc)[S + m]? = some (.inl (ci, fs)) := by rw [List.getElem?_append_right (by omega), hS, Nat.add_sub_cancel_left]; exact hT
  refine va_putF (D := G.1) (cl := vwCl) (ci := ci) (C := C) (T := Tt) (N := N) B.1 B.2.1 B.2.2.2.1 hu ty0 ht0 hn2 B.2.2.1 B.2.2.2.2.1.1 hP wl_D hSS (S + m) (wl_at hT2) hc i hi (B.2.2.2.1 _ hw) (fun _ h => h) hfin hnm hdecl hd (hnf _).1 (hnf _).2 (by simp [vl]; exact hf) d (fun H1 locs1 hP1 hD1 hS1 => kk H1 locs1 ls ?_ hS1 hl)
  rw [vl_setr] at hP1
  have e := wl_shape (G := G) (T := T0 ++ loc) (σ := σ) (k := S + m) (.inl (ci, fs.set i (some (some j)))) (List.getElem?_eq_some_iff.mp hT2).1
  rw [show ce G (σ (S + m)) (.inl (ci, fs.set i (some (some j)))) = .inr (ci, vl G (σ (S + m)) (fs.set i (some (some j)))) from rfl] at e
  rw [e, List.set_append_right _ _ (by omega), hS, Nat.add_sub_cancel_left, he] at hP1
  exact hP1
theorem u_aast (B : Bd l (cx X k n) G b own nL D) (hS : T0.length = S) {q c ci i : Nat} {x : Int32} {r : vw_C} {js : List (Option Nat)} {fs : List (Option (Option Nat))} (ha : loc[m]? = some (.inr (.inr (c, js)))) (hc : (tyL G)[c]? = some (G.2.1 c, .object r.1)) (hv : loc[q]? = some (.inl (ci, fs))) (hcl : vwCl[ci]? = some r) (hx : ix x js.length i) (he : loc.set m (.inr (.inr (c, js.set i (some (S + q))))) = loc') (d : decode b pc = .ok (.aastore, 1)) (kk : V (cx X k n) G (T0 ++ loc') σ L st (pc + 1)) : V (cx X k n) G (T0 ++ loc) σ L (.ref (ad G (S + q)) :: .int x :: .ref (ad G (S + m)) :: st) pc := fun H locs ls hP hSS hl => by
  obtain ⟨hin, rfl⟩ := hx
  have hT2 : (T0 ++ loc)[S + m]? = some (.inr (.inr (c, js))) := by rw [List.getElem?_append_right (by omega), hS, Nat.add_sub_cancel_left]; exact ha
  have hT3 : (T0 ++ loc)[S + q]? = some (.inl (ci, fs)) := by rw [List.getElem?_append_right (by omega), hS, Nat.add_sub_cancel_left]; exact hv
  refine va_astq (D := G.1) (cl := vwCl) (r := r) (f := fun i => ((js[i]?).getD none).map (ad G)) B.1 B.2.1 B.2.2.2.2.1.1 hP wl_D hSS (S + m) c (S + q) ci (wl_at hT2) hc (wl_at hT3) hcl hin d (fun H1 locs1 hP1 hD1 hS1 => kk H1 locs1 ls ?_ hS1 hl)
  have hlt : x.toNatClampNeg < js.length := Nat.not_le.mp fun q => hin (Or.inr q)
  have e := wl_shape (G := G) (T := T0 ++ loc) (σ := σ) (k := S + m) (.inr (.inr (c, js.set x.toNatClampNeg (some (S + q))))) (List.getElem?_eq_some_iff.mp hT2).1
  have ef : va_up (fun i => ((js[i]?).getD none).map (ad G)) x.toNatClampNeg (some (ad G (S + q))) = fun i => (((js.set x.toNatClampNeg (some (S + q)))[i]?).getD none).map (ad G) := by
    funext a
    unfold va_up
    by_cases h : a = x.toNatClampNeg
    · rw [if_pos h, h, List.getElem?_set_self hlt]; rfl
    · rw [if_neg h, List.getElem?_set_ne (Ne.symm h)]
  rw [show ce G (σ (S + m)) (.inr (.inr (c, js.set x.toNatClampNeg (some (S + q))))) = .inl (G.2.1 c, (js.set x.toNatClampNeg (some (S + q))).length, .inr (.inr (.inr (.inr (fun i => (((js.set x.toNatClampNeg (some (S + q)))[i]?).getD none).map (ad G)))))) from rfl, List.length_set, ← ef] at e
  rw [e, List.set_append_right _ _ (by omega), hS, Nat.add_sub_cancel_left, he] at hP1
  exact hP1
theorem u_obj {T : List Sh} (B : Bd l X G b own nL D) {idx a : Nat} (w : Cond.methodLink own idx ⟨"java/lang/Object", "<init>", "()V"⟩ ∈ lwg) (hD : 1 ≤ D) (hs : sm st ≤ 8) (d : decode b pc = .ok (.invokespecial idx, 3)) (kk : V X G T σ L st (pc + 3)) : V X G T σ L (.ref a :: st) pc := fun H locs ls hP hSS hl => by
  have h1 := B.2.2.2.2.2.2.1
  have hr : 2 * (F0 (xm X) pc ls (.ref a :: st)).monitorRoom + (st.map fun v => v.category).sum ≤ 8 := lv_room hs
  refine W.objInit B.1 B.2.1 B.2.2.1 (B.2.2.2.1 _ w) (B.2.2.2.1 _ q24) (B.2.2.2.1 _ q25) rfl hl.1 rfl d (by omega) (by omega) (kk H locs ls hP hSS hl)
end MK
/-! contracts of constructors -/
def rmC (d mc ms : Nat) : Room := { frames := d, cells := mc, slots := ms, locals := 37 * d }
def Cn (l : Launch) (G : GG) (M : MR) (d mc ms z : Nat) (T T' : List Sh) (as : List Value) (σ τ : Sg) : Prop := Met l M.1 (wM M) (rmC d mc ms) (va_Pc as (fun U => PRE G T σ U ∧ U.heap.size = ad G z)) (QR G T' (fun r ρ => r = none ∧ ρ = τ)) mc ms (AA G)
theorem cn_intro {l : Launch} {G : GG} {y : MethodName} {b : ByteArray} {nL d mc ms z : Nat} {T T' : List Sh} {as : List Value} {σ τ : Sg} (hy : plainName y.cls = true) (hyn : y.name = "<init>") (hl : (lg_sl as).length ≤ nL)
    (body : ∀ X : CX, Bd l (cx X 0 0) G b y.cls nL d → (xs X).heap.size = ad G z → (xM X).name = "<init>" → (xR X).cells = mc → (xR X).slots = ms → RQ (cx X mc ms) G none T' (fun r ρ => r = none ∧ ρ = τ) → V (cx X 0 0) G T σ (lvE nL as) [] 0) : Cn l G (y, b, nL, none) d mc ms z T T' as σ τ := by
  refine Met.ofW (cc := b) (maxL := nL) (ret := none) hy rfl ?_
  intro p e s m args below meth c s₁ B hml hv
  obtain ⟨rfl, ⟨hP, hK⟩, hz⟩ := hv
  have hts := atoms_spec (ws := wM (y, b, nL, none)) B.pre
  have hown : s.vm.findClass y.cls = some m.cls := findClass_of_methodNamed B.named
  have hnm : meth.name = "<init>" := ((name_of_methodNamed B.named B.method).1).trans hyn
  have k := body (p, l, e, rmC d mc ms, s, m, as.toArray, below, meth, c, 0, 0, MQ below (QR G T' (fun r ρ => r = none ∧ ρ = τ)) as.toArray s mc ms (AA G)) ⟨B.exec, B.bytes, hown, fun w hw => hts w (List.mem_cons_of_mem _ hw), hK, rfl, ⟨Nat.le_refl _, Nat.le_refl _⟩, Nat.zero_le _, Nat.zero_le _, hml⟩ hz hnm rfl rfl ⟨B.returns, B.notSynchronized, rfl⟩
  rw [lg_entry_eq]
  exact k s.heap [] _ hP va_S.rf (by show lo _ c.maxLocals _; rw [hml]; exact lvE_lo hl)
def KI (own : String) (idx : Nat) (M : MR) (n : Nat) : Prop := (Cond.methodLink own idx M.1 ∈ lwg ∧ Cond.instanceMethod M.1 ∈ lwg ∧ Cond.initialized M.1.cls ∈ lwg ∧ Cond.code M.1 M.2.1 M.2.2.1 M.2.2.2 ∈ lwg) ∧ (M.1.name = "<init>" ∧ M.2.2.2 = none) ∧ (M.1.cls ≠ "java/lang/invoke/MethodHandle" ∧ M.1.cls ≠ "java/lang/invoke/VarHandle" ∧ (parseMethodDescriptor M.1.desc).map (fun d => d.parameters.length) = some n) ∧ M.2.2.1 ≤ 18
def KJ (own : String) (idx : Nat) (M : MR) (n : Nat) : Prop := (Cond.methodLinkNest own idx M.1 "InsideOut" ∈ nW ∧ Cond.instanceMethod M.1 ∈ lwg ∧ Cond.initialized M.1.cls ∈ lwg ∧ Cond.code M.1 M.2.1 M.2.2.1 M.2.2.2 ∈ lwg) ∧ (M.1.name = "<init>" ∧ M.2.2.2 = none) ∧ (M.1.cls ≠ "java/lang/invoke/MethodHandle" ∧ M.1.cls ≠ "java/lang/invoke/VarHandle" ∧ (parseMethodDescriptor M.1.desc).map (fun d => d.parameters.length) = some n) ∧ M.2.2.1 ≤ 18
section MC
variable {l : Launch} {X : CX} {G : GG} {σ τ : Sg} {L : List (Option Value)} {pc k n d idx na mc ms z : Nat} {b : ByteArray} {own : String} {nL D : Nat} {T T' : List Sh} {M : MR}
theorem fitC (B : Bd l (cx X k n) G b own nL D) (hm : M.2.2.1 ≤ 18) (hD : d + 1 ≤ D) : (rmC d mc ms).frames + 1 ≤ (xR X).frames ∧ 8 + (M.2.2.1 + 11) + (rmC d mc ms).locals ≤ (xR X).locals := by
  have h1 := B.2.2.2.2.2.2.1
  have h2 : xR (cx X k n) = xR X := rfl
  rw [h2] at h1
  show d + 1 ≤ _ ∧ 8 + (M.2.2.1 + 11) + 37 * d ≤ _
  omega
theorem blindC (as : List Value) : FrameBlind (va_Pc as (fun U => PRE G T σ U ∧ U.heap.size = ad G z)) := fun _ _ _ _ q => ⟨q.1, q.2.1.calling, q.2.2⟩
/-- behind a constructor -/
theorem u_run {rest : List Value} {st0 : List Value} {a : Array Value} (hr : ∀ (H : Heap) (locs : List Loc) (ls : Array Slot), Pic G T σ H → va_S (AA G) (xs X).heap H locs → lo ls (xc X).maxLocals L → H.size = ad G z → va_Run (xp X) (xl X) (xe X) (xR X) (xs X) (xm X) (xa X) (xb X) (xM X) (xc X) H locs k n mc ms (F0 (xm X) pc ls st0) rest (QR G T' (fun r ρ => r = none ∧ ρ = τ) a) (AA G)) (hlen : T.length = z) (hz : (xs X).heap.size + k = ad G z) (h0 : z = 0 → k = 0)
    (kk : V (cx X (k + mc) (n + ms)) G T' τ L rest (pc + 3)) : V (cx X k n) G T σ L st0 pc := fun H locs ls hP hS hl => by
  intro U hU S
  obtain ⟨v, st₀, t, U', L', e0, S', hL, e1, e2, ⟨r, ρ, hv, ⟨hr1, hr2⟩, hp, hz1, hk⟩, go⟩ := hr H locs ls hP hS hl (sz_of (X := X) hlen hz h0 hP hS hU S) U hU S
  subst hr1
  subst hr2
  cases hv
  rw [e0] at hz1 hk
  obtain ⟨t2, a1, b1⟩ := kk U'.heap (locs ++ L') ls (by rw [e1]; exact hp) ⟨Nat.le_trans hS.1 (by rw [e1]; exact hz1), fun q h1 h2 => by rw [e1, hk q (Nat.lt_of_lt_of_le h1 hS.1) h2]; exact hS.2.1 q h1 h2, fun q hq => by
      rcases List.mem_append.mp hq with h | h
      · exact hS.2.2 q h
      · exact hL q h⟩ hl U' rfl S'
  exact ⟨t2, go t2 a1, b1⟩
theorem u_cI (B : Bd l (cx X k n) G b own nL D) {kb : Nat} {As rest : List Value} {st0 : List Value} (K : KI own idx M na) (c : Cn l G M d mc ms z T T' (.ref (ad G kb) :: As) σ τ) (hD : d + 1 ≤ D) (hn : As.length = na) (hlen : T.length = z) (hz : (xs X).heap.size + k = ad G z) (h0 : z = 0 → k = 0) (hk : k + mc ≤ (xR X).cells) (hsl : n + ms ≤ (xR X).slots) (hs : sm rest ≤ 8) (dg : decode b pc = .ok (.invokespecial idx, 3)) (he : st0 = As.reverse ++ .ref (ad G kb) :: rest)
    (kk : V (cx X (k + mc) (n + ms)) G T' τ L rest (pc + 3)) : V (cx X k n) G T σ L st0 pc := by
  subst he
  refine u_run (a := (Value.ref (ad G kb) :: As).toArray) (fun H locs ls hP hS hl hsz => ?_) hlen hz h0 kk
  obtain ⟨⟨k1, k2, k3, k4⟩, ⟨k51, k52⟩, k6, k7⟩ := K
  have hl6 : xl X = l := B.2.2.2.2.2.1
  subst hl6
  exact va_runI (bytes := M.2.1) (maxL := M.2.2.1) (As := As) (rest := rest) ⟨B.1, B.2.1, rfl, B.2.2.1, B.2.2.2.1⟩ c (cwI na B.2.2.2.1 (wM_good k4) (by rw [← k52]) rfl rfl (B.2.2.2.1 _ k3) (B.2.2.2.1 _ k1) (B.2.2.2.1 _ k2) k51 k6 (fitC B k7 hD)) ⟨blindC _, fun U hU hW => ⟨rfl, PRE.at B.2.2.2.2.1 hP hS hU hW, by rw [hU]; exact hsz⟩⟩ rfl hn hl.1 rfl (lv_room hs) dg ⟨hk, hsl⟩
theorem u_cJ (B : Bd l (cx X k n) G b own nL D) {kb : Nat} {As rest : List Value} {st0 : List Value} (K : KJ own idx M na) (c : Cn l G M d mc ms z T T' (.ref (ad G kb) :: As) σ τ) (hD : d + 1 ≤ D) (hn : As.length = na) (hlen : T.length = z) (hz : (xs X).heap.size + k = ad G z) (h0 : z = 0 → k = 0) (hk : k + mc ≤ (xR X).cells) (hsl : n + ms ≤ (xR X).slots) (hs : sm rest ≤ 8) (dg : decode b pc = .ok (.invokespecial idx, 3)) (he : st0 = As.reverse ++ .ref (ad G kb) :: rest)
    (kk : V (cx X (k + mc) (n + ms)) G T' τ L rest (pc + 3)) : V (cx X k n) G T σ L st0 pc := by
  subst he
  refine u_run (a := (Value.ref (ad G kb) :: As).toArray) (fun H locs ls hP hS hl hsz => ?_) hlen hz h0 kk
  obtain ⟨⟨k1, k2, k3, k4⟩, ⟨k51, k52⟩, k6, k7⟩ := K
  have hl6 : xl X = l := B.2.2.2.2.2.1
  subst hl6
  exact va_runIN (bytes := M.2.1) (maxL := M.2.2.1) (host := "InsideOut") (As := As) (rest := rest) ⟨B.1, B.2.1, rfl, B.2.2.1, B.2.2.2.1⟩ c ⟨va_cnB na B.2.2.2.1 (wM_good k4) (by rw [← k52]) rfl rfl (B.2.2.2.2.1.2.2.1 _ k1) (B.2.2.2.1 _ k3) k6 (fitC B k7 hD), k51, B.2.2.2.1 _ k2⟩ ⟨blindC _, fun U hU hW => ⟨rfl, PRE.at B.2.2.2.2.1 hP hS hU hW, by rw [hU]; exact hsz⟩⟩ rfl hn hl.1 rfl (lv_room hs) dg ⟨hk, hsl⟩
end MC

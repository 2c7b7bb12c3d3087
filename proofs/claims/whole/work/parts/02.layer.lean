/-! the words that a method's contract takes along: all that stay true -/
def lwg : List Cond := lw_tbl.filter goodWord
theorem tG {w : Cond} (i : Nat) (h : tables_1[i]? = some w) (hg : goodWord w = true) : w ∈ lwg := List.mem_filter.mpr ⟨List.mem_append_right _ (List.mem_of_getElem? h), hg⟩
theorem tP {w : Cond} (i : Nat) (h : (k2_sels lw_privs)[i]? = some w) (hg : goodWord w = true) : w ∈ lwg := List.mem_filter.mpr ⟨List.mem_append_left _ (List.mem_of_getElem? h), hg⟩
theorem lwg_good {big : List Cond} (h : ∀ w ∈ lwg, w ∈ big) : GoodIn big lwg := fun w hw => ⟨h w hw, good_of_word (List.mem_filter.mp hw).2⟩
abbrev wM (M : MR) : List Cond := Cond.code M.1 M.2.1 M.2.2.1 M.2.2.2 :: lwg
theorem wM_good {M : MR} (h : Cond.code M.1 M.2.1 M.2.2.1 M.2.2.2 ∈ lwg) : GoodIn lwg (wM M) := fun w hw => by
  rcases List.mem_cons.mp hw with e | e
  · rw [e]; exact ⟨h, good_of_word (List.mem_filter.mp h).2⟩
  · exact ⟨e, good_of_word (List.mem_filter.mp e).2⟩
/-! the picture of the heap: a table of shapes, and a number for each place of each cell -/
/-- classes and slots; the classes of arrays (0 int, 1 Sheet, 2 Umbrella); the first cell's address; the String constants and their bytes; GREATEST, KIND_ABOVE -/
abbrev GG : Type := va_G × (Nat → ClassId) × Nat × (Nat → Nat) × (Nat → Nat) × Nat × Nat
abbrev Sg : Type := Nat → Nat → Int32
/-- an object: its class, its fields (none: a number; some none: null; some (some j): cell j); an int array: its length; an array of references: its class's number, its cells -/
abbrev Sh : Type := (Nat × List (Option (Option Nat))) ⊕ (Nat ⊕ (Nat × List (Option Nat)))
def ad (G : GG) (k : Nat) : Nat := G.2.2.1 + k
def AA (G : GG) : Nat → Prop := fun q => G.2.2.1 ≤ q
def fv (G : GG) (f : Nat → Int32) (i : Nat) : Option (Option Nat) → Value
  | none => .int (f i)
  | some none => .null
  | some (some j) => .ref (ad G j)
def vl (G : GG) (f : Nat → Int32) (fs : List (Option (Option Nat))) : List Value := fs.mapIdx (fun i x => fv G f i x)
def ce (G : GG) (f : Nat → Int32) : Sh → va_E
  | .inl (ci, fs) => .inr (ci, vl G f fs)
  | .inr (.inl n) => .inl (G.2.1 0, n, .inl f)
  | .inr (.inr (c, js)) => .inl (G.2.1 c, js.length, .inr (.inr (.inr (.inr (fun i => ((js[i]?).getD none).map (ad G))))))
def wl (G : GG) (T : List Sh) (σ : Sg) : va_W := T.mapIdx (fun k sh => (ad G k, ce G (σ k) sh))
def Pic (G : GG) (T : List Sh) (σ : Sg) (H : Heap) : Prop := va_P G.1 vwCl (wl G T σ) H
/-- one number changes -/
def st2 (σ : Sg) (k i : Nat) (v : Int32) : Sg := fun a b => if a = k then (if b = i then v else σ a b) else σ a b
theorem st2_eq (σ : Sg) (k i : Nat) (v : Int32) : va_up σ k (upd (σ k) i v) = st2 σ k i v := by
  funext a b
  simp only [va_up, upd, st2]
  by_cases h : a = k
  · subst h; simp [upd]
  · simp [h]
theorem wl_at {G : GG} {T : List Sh} {σ : Sg} {k : Nat} {sh : Sh} (h : T[k]? = some sh) : (wl G T σ)[k]? = some (ad G k, ce G (σ k) sh) := by
  simp [wl, List.getElem?_mapIdx, h]
theorem wl_of {G : GG} {T : List Sh} {σ : Sg} {k : Nat} {q : Nat × va_E} (h : (wl G T σ)[k]? = some q) : q.1 = ad G k := by
  simp only [wl, List.getElem?_mapIdx] at h
  cases hT : T[k]? with
  | none => rw [hT] at h; cases h
  | some sh => rw [hT] at h; cases h; rfl
theorem wl_D {G : GG} {T : List Sh} {σ : Sg} : va_D (AA G) (wl G T σ) := by
  refine ⟨fun i j p q hi hj e => ?_, fun k q hk => ?_⟩
  · rw [wl_of hi, wl_of hj] at e
    simp only [ad] at e
    omega
  · rw [wl_of hk]; exact Nat.le_add_right _ _
theorem wl_len {G : GG} {T : List Sh} {σ : Sg} : (wl G T σ).length = T.length := by simp [wl]
theorem wl_set {G : GG} {T : List Sh} {σ : Sg} {k : Nat} {sh : Sh} (h : T[k]? = some sh) (f : Nat → Int32) : (wl G T σ).set k (ad G k, ce G f sh) = wl G T (va_up σ k f) := by
  have hl := (List.getElem?_eq_some_iff.mp h).1
  refine List.ext_getElem? fun j => ?_
  by_cases hj : j = k
  · subst hj
    rw [List.getElem?_set_self (by rw [wl_len]; exact hl), wl_at h]
    simp [va_up]
  · rw [List.getElem?_set_ne (Ne.symm hj)]
    simp only [wl, List.getElem?_mapIdx, va_up, if_neg hj]
theorem vl_at {G : GG} {f : Nat → Int32} {fs : List (Option (Option Nat))} {i : Nat} {x : Option (Option Nat)} (h : fs[i]? = some x) : (vl G f fs)[i]? = some (fv G f i x) := by
  simp [vl, List.getElem?_mapIdx, h]
theorem vl_set {G : GG} {f : Nat → Int32} {fs : List (Option (Option Nat))} {i : Nat} (h : fs[i]? = some none) (v : Int32) : (vl G f fs).set i (.int v) = vl G (upd f i v) fs := by
  have hl := (List.getElem?_eq_some_iff.mp h).1
  refine List.ext_getElem? fun j => ?_
  by_cases hj : j = i
  · subst hj
    rw [List.getElem?_set_self (by simp [vl]; exact hl), vl_at h]
    simp [fv, upd]
  · rw [List.getElem?_set_ne (Ne.symm hj)]
    simp only [vl, List.getElem?_mapIdx]
    cases fs[j]? with
    | none => rfl
    | some x =>
      cases x with
      | none => simp [fv, upd, hj]
      | some y => cases y <;> simp [fv]
/-! the locals: a list, place by place -/
def lo (ls : Array Slot) (nL : Nat) (L : List (Option Value)) : Prop := ls.size = nL ∧ lv_wf ls ∧ ∀ (i : Nat) (v : Value), L[i]? = some (some v) → ls[i]? = some (.val v)
def al (L : List (Option Value)) : List (Nat × Value) := (List.range L.length).filterMap (fun i => ((L[i]?).getD none).map (fun v => (i, v)))
theorem al_mem {L : List (Option Value)} {i : Nat} {v : Value} : (i, v) ∈ al L ↔ L[i]? = some (some v) := by
  simp only [al, List.mem_filterMap, List.mem_range]
  constructor
  · rintro ⟨j, hj, h⟩
    cases hL : L[j]? with
    | none => rw [hL] at h; cases h
    | some o =>
      cases o with
      | none => rw [hL] at h; cases h
      | some w => rw [hL] at h; cases h; exact hL
  · intro h
    exact ⟨i, (List.getElem?_eq_some_iff.mp h).1, by rw [h]; rfl⟩
theorem lo_has {ls : Array Slot} {nL : Nat} {L : List (Option Value)} (h : lo ls nL L) : lv_has ls nL (al L) := ⟨h.1, h.2.1, fun q hq => h.2.2 q.1 q.2 (al_mem.mp hq)⟩
/-- not a long -/
def nl1 : Option (Option Value) → Bool
  | some (some (.long _)) => false
  | some (some (.double _)) => false
  | _ => true
theorem nl1_cat {x : Option (Option Value)} {v : Value} (h : nl1 x = true) (hx : x = some (some v)) : ¬ v.category = 2 := by
  subst hx
  cases v <;> simp_all [nl1, Value.category]
theorem lo_set1 {ls ls' : Array Slot} {nL i : Nat} {v : Value} {L : List (Option Value)} (h' : lv_has ls' nL ((i, v) :: (al L).filter (fun q => !(q.1 == i) && !(q.1 + 1 == i && q.2.category == 2)))) (hp : ∀ j, j + 1 = i → nl1 L[j]? = true) : lo ls' nL (L.set i (some v)) := by
  refine ⟨h'.1, h'.2.1, fun j w hj => ?_⟩
  by_cases e : j = i
  · subst e
    have hl : j < L.length := by
      rcases Nat.lt_or_ge j L.length with q | q
      · exact q
      · rw [List.getElem?_eq_none (by simp; exact q)] at hj; cases hj
    rw [List.getElem?_set_self hl] at hj
    cases hj
    exact h'.2.2 (j, v) List.mem_cons_self
  · rw [List.getElem?_set_ne (Ne.symm e)] at hj
    refine h'.2.2 (j, w) (List.mem_cons_of_mem _ (List.mem_filter.mpr ⟨al_mem.mpr hj, ?_⟩))
    by_cases e2 : j + 1 = i
    · have := nl1_cat (hp j e2) hj
      simp [e, this]
    · simp [e, e2]
theorem lo_set2 {ls ls' : Array Slot} {nL i : Nat} {v : Value} {L : List (Option Value)} (h' : lv_has ls' nL ((i, v) :: (al L).filter (fun q => !(q.1 == i) && (!(q.1 == i + 1) && !(q.1 + 1 == i && q.2.category == 2))))) (hp : ∀ j, j + 1 = i → nl1 L[j]? = true) : lo ls' nL ((L.set i (some v)).set (i + 1) none) := by
  refine ⟨h'.1, h'.2.1, fun j w hj => ?_⟩
  by_cases e1 : j = i + 1
  · subst e1
    rcases Nat.lt_or_ge (i + 1) L.length with q | q
    · rw [List.getElem?_set_self (by simp; exact q)] at hj; cases hj
    · rw [List.getElem?_eq_none (by simp; exact q)] at hj; cases hj
  rw [List.getElem?_set_ne (Ne.symm e1)] at hj
  by_cases e : j = i
  · subst e
    have hl : j < L.length := by
      rcases Nat.lt_or_ge j L.length with q | q
      · exact q
      · rw [List.getElem?_eq_none (by simp; exact q)] at hj; cases hj
    rw [List.getElem?_set_self hl] at hj
    cases hj
    exact h'.2.2 (j, v) List.mem_cons_self
  · rw [List.getElem?_set_ne (Ne.symm e)] at hj
    refine h'.2.2 (j, w) (List.mem_cons_of_mem _ (List.mem_filter.mpr ⟨al_mem.mpr hj, ?_⟩))
    by_cases e2 : j + 1 = i
    · have := nl1_cat (hp j e2) hj
      simp [e, e1, this]
    · simp [e, e1, e2]
/-! what is known of the state beside the picture: classes, statics, String constants, links of nest mates -/
def tyL (G : GG) : List (ClassId × FieldType) := [(G.2.1 0, .int), (G.2.1 1, .object "InsideOut$Sheet"), (G.2.1 2, .object "InsideOut$Umbrella")]
def gT : Nat → Value := fun j => .int (([6, 16, 3, 3, 8, 1, 999, 99999] : List Int32).getD j 0)
def kT : Nat → Value := fun j => .int (([-1, 0, 0, 2, 3, 0, 1] : List Int32).getD j 0)
def sN : List (Nat × String) := [(156, "big"), (158, "small"), (160, "bent"), (162, "binned"), (164, "paper"), (166, "golf"), (168, "umbrella"), (87, "at"), (93, "ribs"), (95, "held"), (97, "habit"), (170, "left"), (172, "right"), (174, "below"), (60, "roof"), (65, "open"), (67, "rain"), (73, "gust")]
def sL : List Nat := [3, 5, 4, 6, 5, 4, 8, 2, 4, 4, 5, 4, 5, 5, 4, 4, 4, 4]
def sB : List (List Int32) := [[98, 105, 103], [115, 109, 97, 108, 108], [98, 101, 110, 116], [98, 105, 110, 110, 101, 100], [112, 97, 112, 101, 114], [103, 111, 108, 102], [117, 109, 98, 114, 101, 108, 108, 97], [97, 116], [114, 105, 98, 115], [104, 101, 108, 100], [104, 97, 98, 105, 116], [108, 101, 102, 116], [114, 105, 103, 104, 116], [98, 101, 108, 111, 119], [114, 111, 111, 102], [111, 112, 101, 110], [114, 97, 105, 110], [103, 117, 115, 116]]
def nW : List Cond := [.methodLinkNest "InsideOut$World" 35 yX4_init "InsideOut", .methodLinkNest "InsideOut" 28 yX5_init "InsideOut", .methodLinkNest "InsideOut$Walk" 20 yX4_init "InsideOut", .methodLinkNest "InsideOut" 35 yX3_init "InsideOut", .methodLinkNest "InsideOut" 59 yX1_init "InsideOut", .methodLinkNest "InsideOut$Street" 43 yX7_isStep "InsideOut", .methodLinkNest "InsideOut$Umbrella" 53 yX7_isStep "InsideOut", .methodLinkNest "InsideOut$Walk" 32 yX7_isStep "InsideOut", .methodLinkNest "InsideOut$Reader" 112 yX7_isStep "InsideOut", .fieldLinkNest "InsideOut$Umbrella" 88 "InsideOut" "GREATEST" "[I" "InsideOut", .fieldLinkNest "InsideOut$Reader" 99 "InsideOut" "GREATEST" "[I" "InsideOut"]
def STA (G : GG) (U : State) (H : Heap) : Prop := va_Z "InsideOut" "GREATEST" "[I" (.ref G.2.2.2.2.2.1) (AA G) U H ∧ va_T .int G.2.2.2.2.2.1 8 gT (AA G) U H ∧ va_Z "InsideOut" "KIND_ABOVE" "[I" (.ref G.2.2.2.2.2.2) (AA G) U H ∧ va_T .int G.2.2.2.2.2.2 7 kT (AA G) U H ∧ vk_S 18 sL sB G.2.2.2.1 G.2.2.2.2.1 (AA G) U H ∧ va_Z "java/lang/String" "COMPACT_STRINGS" "Z" (.int 1) (AA G) U H ∧ va_Zq "jdk/internal/util/Preconditions" "SIOOBE_FORMATTER" "Ljava/util/function/BiFunction;" (AA G) U H
def SRS (G : GG) (U : State) : Prop := (∀ w ∈ nW, va_Nw w U) ∧ (∀ (i : Nat) (q : Nat × String), sN[i]? = some q → vk_R "InsideOut$Reader" q.1 q.2 (G.2.2.2.1 i) U) ∧ va_AO "InsideOut$Sheet" U ∧ va_AO "InsideOut$Umbrella" U
def KK (G : GG) (U : State) : Prop := va_K G.1 vwCl (tyL G) U ∧ STA G U U.heap ∧ SRS G U
theorem STA.moved {G : GG} {u U : State} {H : Heap} (hvm : u.vm.Alike U.vm) (h : STA G u H) : STA G U H := by
  obtain ⟨h1, h2, h3, h4, h5, h6, h7⟩ := h
  exact ⟨h1.moved hvm, h2.moved hvm, h3.moved hvm, h4.moved hvm, h5.moved hvm, h6.moved hvm, h7.moved hvm⟩
theorem STA.kept {G : GG} {U : State} {H H1 : Heap} (h : STA G U H) (hq : ∀ a : Nat, a < H.size → ¬ AA G a → H1[a]? = H[a]?) : STA G U H1 := by
  obtain ⟨h1, h2, h3, h4, h5, h6, h7⟩ := h
  exact ⟨h1.kept hq, h2.kept hq, h3.kept hq, h4.kept hq, h5.kept hq, h6.kept hq, h7.kept hq⟩
theorem nW_tab : ∀ w ∈ nW, w.onTables = true := by
  intro w hw
  simp only [nW, List.mem_cons, List.not_mem_nil, or_false] at hw
  rcases hw with rfl | rfl | rfl | rfl | rfl | rfl | rfl | rfl | rfl | rfl | rfl <;> rfl
theorem SRS.same {G : GG} {u U : State} (hv : u.vm = U.vm) (h : SRS G u) : SRS G U := by
  obtain ⟨h1, h2, h3, h4⟩ := h
  exact ⟨fun w hw => va_Nw.same (nW_tab w hw) hv (h1 w hw), fun i q hq => vk_R.same hv.symm (h2 i q hq), va_AO.moved (by rw [hv]; exact Vm.Alike.refl _) h3, va_AO.moved (by rw [hv]; exact Vm.Alike.refl _) h4⟩
theorem SRS.warm {G : GG} {s U : State} (hW : s.WarmedH U.vm) (h : SRS G s) : SRS G U := by
  obtain ⟨h1, h2, h3, h4⟩ := h
  refine ⟨fun w hw => ?_, fun i q hq => vk_R.warm hW (h2 i q hq), va_AO.moved hW.alike h3, va_AO.moved hW.alike h4⟩
  have h := h1 w hw
  simp only [nW, List.mem_cons, List.not_mem_nil, or_false] at hw
  rcases hw with rfl | rfl | rfl | rfl | rfl | rfl | rfl | rfl | rfl | rfl | rfl <;> first | exact va_Nw.warmM hW h | exact va_Nw.warmF hW h
/-- what a method of ours finds -/
def PRE (G : GG) (T : List Sh) (σ : Sg) (U : State) : Prop := Pic G T σ U.heap ∧ KK G U
theorem PRE.calling {G : GG} {T : List Sh} {σ : Sg} {U : State} {g : JFrame} {mk : MethodId} {a : Array Value} (h : PRE G T σ U) : PRE G T σ (U.calling g mk a) := by
  obtain ⟨h1, h2, h3, h4⟩ := h
  exact ⟨h1, va_K.moved (u := U) (U := U.calling g mk a) (Vm.Alike.refl U.vm) h2, STA.moved (u := U) (U := U.calling g mk a) (Vm.Alike.refl U.vm) h3, SRS.same (u := U) (U := U.calling g mk a) rfl h4⟩
theorem PRE.at {G : GG} {T : List Sh} {σ : Sg} {s U : State} {H : Heap} {locs : List Loc} (hK : KK G s) (hP : Pic G T σ H) (hS : va_S (AA G) s.heap H locs) (hU : U.heap = H) (hW : s.WarmedH U.vm) : PRE G T σ U := by
  obtain ⟨h2, h3, h4⟩ := hK
  refine ⟨by rw [hU]; exact hP, va_K.moved hW.alike h2, ?_, SRS.warm hW h4⟩
  rw [hU]
  exact (STA.moved hW.alike h3).kept hS.2.1

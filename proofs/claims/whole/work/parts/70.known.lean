/-! what is known at the law's entry -/
def FL : List Cond := flatC (Cond.and given_1 narrow_1)
def sT (i : Nat) : Term := .string "InsideOut$Reader" (sN.getD i (0, "")).1
def sP : List Nat := [48, 55, 65, 75, 88, 101, 114, 132, 145, 161, 178, 197, 216, 237, 259, 281, 304, 328]
def rP : List Nat := [577, 578, 579, 580, 581, 582, 583, 642, 653, 654, 655, 659, 660, 661, 667, 672, 673, 678]
def nP : List Nat := [80, 140, 147, 159, 197, 267, 356, 455, 666, 368, 647]
def tP2 : List (List Nat) := [[0, 64, 73, 85, 97, 109, 126, 138, 153, 169, 187, 205, 225, 246, 267, 289, 312, 336], [0, 0, 74, 86, 98, 110, 127, 139, 154, 170, 188, 206, 226, 247, 268, 290, 313, 337], [0, 0, 0, 87, 99, 111, 128, 140, 155, 171, 189, 207, 227, 248, 269, 291, 314, 338], [0, 0, 0, 0, 100, 112, 129, 141, 156, 172, 190, 208, 228, 249, 270, 292, 315, 339], [0, 0, 0, 0, 0, 113, 130, 142, 157, 173, 191, 209, 229, 250, 271, 293, 316, 340], [0, 0, 0, 0, 0, 0, 131, 143, 158, 174, 192, 210, 230, 251, 272, 294, 317, 341], [0, 0, 0, 0, 0, 0, 0, 144, 159, 175, 193, 211, 231, 252, 273, 295, 318, 342], [0, 0, 0, 0, 0, 0, 0, 0, 160, 176, 194, 212, 232, 253, 274, 296, 319, 343], [0, 0, 0, 0, 0, 0, 0, 0, 0, 177, 195, 213, 233, 254, 275, 297, 320, 344], [0, 0, 0, 0, 0, 0, 0, 0, 0, 0, 196, 214, 234, 255, 276, 298, 321, 345], [0, 0, 0, 0, 0, 0, 0, 0, 0, 0, 0, 215, 235, 256, 277, 299, 322, 346], [0, 0, 0, 0, 0, 0, 0, 0, 0, 0, 0, 0, 236, 257, 278, 300, 323, 347], [0, 0, 0, 0, 0, 0, 0, 0, 0, 0, 0, 0, 0, 258, 279, 301, 324, 348], [0, 0, 0, 0, 0, 0, 0, 0, 0, 0, 0, 0, 0, 0, 280, 302, 325, 349], [0, 0, 0, 0, 0, 0, 0, 0, 0, 0, 0, 0, 0, 0, 0, 303, 326, 350], [0, 0, 0, 0, 0, 0, 0, 0, 0, 0, 0, 0, 0, 0, 0, 0, 327, 351], [0, 0, 0, 0, 0, 0, 0, 0, 0, 0, 0, 0, 0, 0, 0, 0, 0, 352], [0, 0, 0, 0, 0, 0, 0, 0, 0, 0, 0, 0, 0, 0, 0, 0, 0, 0]]
set_option maxRecDepth 40000 in
theorem f_ex : ∀ i, i < 18 → FL[sP.getD i 0]? = some (Cond.exactly (sT i) "java/lang/String") := by decide +kernel
set_option maxRecDepth 40000 in
theorem f_co : ∀ i, i < 18 → FL[sP.getD i 0 + 1]? = some (Cond.eq (.field (sT i) "java/lang/String" "coder" "B") (.int 0)) := by decide +kernel
set_option maxRecDepth 40000 in
theorem f_ar : ∀ i, i < 18 → FL[sP.getD i 0 + 2]? = some (Cond.arrayOf (.field (sT i) "java/lang/String" "value" "[B") .byte) := by decide +kernel
set_option maxRecDepth 40000 in
theorem f_le : ∀ i, i < 18 → FL[sP.getD i 0 + 3]? = some (Cond.eq (.length (.field (sT i) "java/lang/String" "value" "[B")) (.int (Int32.ofNat (sL.getD i 0)))) := by decide +kernel
set_option maxRecDepth 40000 in
theorem f_el : ∀ i, i < 18 → ∀ j, j < sL.getD i 0 → FL[sP.getD i 0 + 4 + j]? = some (Cond.eq (.elem (.field (sT i) "java/lang/String" "value" "[B") (.int (Int32.ofNat j))) (.int ((sB.getD i []).getD j 0))) := by decide +kernel
set_option maxRecDepth 40000 in
theorem f_ne : ∀ i, i < 18 → ∀ j, j < 18 → i ≠ j → FL[(tP2.getD i []).getD j 0]? = some (Cond.not (Cond.eq (sT i) (sT j))) ∨ FL[(tP2.getD j []).getD i 0]? = some (Cond.not (Cond.eq (sT j) (sT i))) := by decide +kernel
set_option maxRecDepth 40000 in
theorem f_rf : ∀ i, i < 18 → tables_1[rP.getD i 0]? = some (Cond.stringRef "InsideOut$Reader" (sN.getD i (0, "")).1 (sN.getD i (0, "")).2) := by decide +kernel
set_option maxRecDepth 40000 in
theorem f_nw : ∀ i, i < 11 → tables_1[nP.getD i 0]? = nW[i]? := by decide +kernel
set_option maxRecDepth 40000 in
theorem f_gt : FL[5]? = some (Cond.arrayOf (.static "InsideOut" "GREATEST" "[I") .int) ∧ FL[6]? = some (Cond.eq (.length (.static "InsideOut" "GREATEST" "[I")) (.int (Int32.ofNat 8))) ∧ ∀ j, j < 8 → FL[7 + j]? = some (Cond.eq (.elem (.static "InsideOut" "GREATEST" "[I") (.int (Int32.ofNat j))) (.int (([6, 16, 3, 3, 8, 1, 999, 99999] : List Int32).getD j 0))) := by decide +kernel
set_option maxRecDepth 40000 in
theorem f_ka : FL[21]? = some (Cond.arrayOf (.static "InsideOut" "KIND_ABOVE" "[I") .int) ∧ FL[22]? = some (Cond.eq (.length (.static "InsideOut" "KIND_ABOVE" "[I")) (.int (Int32.ofNat 7))) ∧ ∀ j, j < 7 → FL[23 + j]? = some (Cond.eq (.elem (.static "InsideOut" "KIND_ABOVE" "[I") (.int (Int32.ofNat j))) (.int (([-1, 0, 0, 2, 3, 0, 1] : List Int32).getD j 0))) := by decide +kernel
set_option maxRecDepth 40000 in
theorem f_cs : FL[15]? = some (Cond.eq (.static "java/lang/String" "COMPACT_STRINGS" "Z") (.int 1)) ∧ FL[16]? = some (Cond.isRef (.static "jdk/internal/util/Preconditions" "SIOOBE_FORMATTER" "Ljava/util/function/BiFunction;")) := by decide +kernel
set_option maxRecDepth 40000 in
theorem f_ls : tables_1[331]? = some (Cond.laysStatic "InsideOut" "GREATEST" "[I") ∧ tables_1[695]? = some (Cond.laysStatic "InsideOut" "KIND_ABOVE" "[I") ∧ tables_1[597]? = some (Cond.laysStatic "java/lang/String" "COMPACT_STRINGS" "Z") ∧ tables_1[613]? = some (Cond.laysStatic "jdk/internal/util/Preconditions" "SIOOBE_FORMATTER" "Ljava/util/function/BiFunction;") ∧ tables_1[195]? = some (Cond.arrayOver (.object "InsideOut$Sheet")) ∧ tables_1[78]? = some (Cond.arrayOver (.object "InsideOut$Umbrella")) := by decide +kernel
theorem nW_len : nW.length = 11 := rfl
theorem sN_len : sN.length = 18 := rfl
theorem sN_gt {i : Nat} {q : Nat × String} (h : sN[i]? = some q) : i < 18 ∧ sN.getD i (0, "") = q := ⟨(List.getElem?_eq_some_iff.mp h).1, by rw [List.getD_eq_getElem?_getD, h]; rfl⟩
set_option maxHeartbeats 4000000 in
theorem kk_start {s : State} {b : Nat} (hts : ∀ w ∈ lw_tbl, w.before #[Value.ref b] s = true) (hgv : (Jvm.Cond.and given_1 narrow_1).before #[Value.ref b] s = true) : ∃ G : GG, G.2.2.1 = s.heap.size ∧ KK G s := by
  have hw : ∀ w ∈ lwg, w.before #[Value.ref b] s = true := fun w h => hts w (List.mem_filter.mp h).1
  have ht : ∀ (i : Nat) (w : Cond), tables_1[i]? = some w → w.before #[Value.ref b] s = true := fun i w h => hts w (List.mem_append_right _ (List.mem_of_getElem? h))
  have hf0 := flat_of_before _ hgv
  have hf : ∀ (i : Nat) (w : Cond), FL[i]? = some w → w.before #[Value.ref b] s = true := fun i w h => hf0 w (List.mem_of_getElem? h)
  have hA : ∀ a : Nat, a < s.heap.size → ¬ (fun q : Nat => s.heap.size ≤ q) a := fun a h q => absurd q (Nat.not_le.mpr h)
  obtain ⟨c0, i0, k0⟩ := u_known hw inG0 (hw _ q173)
  obtain ⟨c1, i1, k1⟩ := u_known hw inG1 (hw _ q196)
  obtain ⟨c2, i2, k2⟩ := u_known hw inG2 (hw _ q33)
  obtain ⟨c3, i3, k3⟩ := u_known hw inG3 (hw _ q158)
  obtain ⟨c4, i4, k4⟩ := u_known hw inG4 (hw _ q79)
  obtain ⟨c5, i5, k5⟩ := u_known hw inG5 (hw _ q139)
  obtain ⟨c6, i6, k6⟩ := u_known hw inG6 (hw _ q27)
  obtain ⟨c7, i7, k7⟩ := u_known hw inG7 (hw _ q19)
  obtain ⟨c8, i8, k8⟩ := u_known hw inG8 (hw _ q755)
  obtain ⟨cA, kA, compA, a1, a2, a3⟩ := Cond.arrayClass_spec (hw _ q76)
  have hoS : va_AO "InsideOut$Sheet" s := va_AO.of (ht _ _ f_ls.2.2.2.2.1)
  have hoU : va_AO "InsideOut$Umbrella" s := va_AO.of (ht _ _ f_ls.2.2.2.2.2)
  obtain ⟨pS, cS, kS, s1, -, s3, s4, s5⟩ := Cond.arrayOver_spec hoS
  obtain ⟨pU, cU, kU, u1, -, u3, u4, u5⟩ := Cond.arrayOver_spec hoU
  obtain ⟨gA, gE, gTt⟩ := va_Tof (tm := .static "InsideOut" "GREATEST" "[I") (ty := .int) (N := 8) (f := gT) (A := fun q : Nat => s.heap.size ≤ q) (by omega) (hf _ _ f_gt.1) (va_eqt (hf _ _ f_gt.2.1)) (fun j hj => va_eqt (hf _ _ (f_gt.2.2 j hj))) hA
  obtain ⟨aA, aE, aTt⟩ := va_Tof (tm := .static "InsideOut" "KIND_ABOVE" "[I") (ty := .int) (N := 7) (f := kT) (A := fun q : Nat => s.heap.size ≤ q) (by omega) (hf _ _ f_ka.1) (va_eqt (hf _ _ f_ka.2.1)) (fun j hj => va_eqt (hf _ _ (f_ka.2.2 j hj))) hA
  have zG := va_Zof (A := fun q : Nat => s.heap.size ≤ q) (ht _ _ f_ls.1) (hw _ q1) gE hA
  have zK := va_Zof (A := fun q : Nat => s.heap.size ≤ q) (ht _ _ f_ls.2.1) (hw _ q1) aE hA
  have zC := va_Zof (A := fun q : Nat => s.heap.size ≤ q) (ht _ _ f_ls.2.2.1) (hw _ q14) (va_eqi (hf _ _ f_cs.1)) hA
  have zF := va_Zqof (A := fun q : Nat => s.heap.size ≤ q) (ht _ _ f_ls.2.2.2.1) (hw _ q16) (hf _ _ f_cs.2) hA
  obtain ⟨adK, adV, hvk, hev⟩ := vk_Sof (args := #[Value.ref b]) (s := s) (N := 18) (tm := sT) (len := sL) (byt := sB) (A := fun q : Nat => s.heap.size ≤ q) (by decide) (fun i hi => hf _ _ (f_ex i hi)) (fun i hi => hf _ _ (f_co i hi)) (fun i hi => hf _ _ (f_ar i hi)) (fun i hi => hf _ _ (f_le i hi)) (fun i hi j hj => hf _ _ (f_el i hi j hj)) (fun i j hi hj hij => (f_ne i hi j hj hij).imp (fun q => hf _ _ q) (fun q => hf _ _ q)) hA
  refine ⟨((fun c => [c0, c1, c2, c3, c4, c5, c6, c7, c8].getD c c0, fun c => [i0, i1, i2, i3, i4, i5, i6, i7, i8].getD c i0), fun c => [cA, cS, cU].getD c cA, s.heap.size, adK, adV, gA, aA), rfl, ⟨fun c q hc => ?_, fun k q hk => ?_⟩, ⟨zG, gTt, zK, aTt, hvk, zC, zF⟩, ⟨fun w hwn => ?_, fun i q hq => ?_, hoS, hoU⟩⟩
  · match c, hc with
    | 0, hc => cases hc; exact k0
    | 1, hc => cases hc; exact k1
    | 2, hc => cases hc; exact k2
    | 3, hc => cases hc; exact k3
    | 4, hc => cases hc; exact k4
    | 5, hc => cases hc; exact k5
    | 6, hc => cases hc; exact k6
    | 7, hc => cases hc; exact k7
    | 8, hc => cases hc; exact k8
    | c + 9, hc => cases hc
  · match k, hk with
    | 0, hk => cases hk; exact ⟨fun n z => ⟨fun k h => (by cases h), kA, a2, compA, a3⟩, a1⟩
    | 1, hk => cases hk; exact ⟨fun n z => ⟨fun k h => (by cases h), kS, s3, pS, s4⟩, kS, pS, s3, s4, s1, s5⟩
    | 2, hk => cases hk; exact ⟨fun n z => ⟨fun k h => (by cases h), kU, u3, pU, u4⟩, kU, pU, u3, u4, u1, u5⟩
    | k + 3, hk => cases hk
  · obtain ⟨i, hi⟩ := List.mem_iff_getElem?.mp hwn
    have hl : i < 11 := (List.getElem?_eq_some_iff.mp hi).1
    exact va_Nw.of (nW_tab w hwn) (ht _ _ ((f_nw i hl).trans hi))
  · obtain ⟨hi, e⟩ := sN_gt hq
    have h1 := ht _ _ (f_rf i hi)
    have h2 := hev i hi
    unfold sT at h2
    rw [e] at h1 h2
    exact vk_R.of h1 h2

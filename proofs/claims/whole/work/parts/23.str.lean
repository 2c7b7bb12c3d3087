/-! String constants -/
section RSt
variable {l : Launch} {X : CX} {G : GG} {T : List Sh} {σ : Sg} {L : List (Option Value)} {st : List Value} {pc : Nat} {b : ByteArray} {own : String} {nL D : Nat}
theorem r_ldcS (B : Bd l X G b "InsideOut$Reader" nL D) {idx : Nat} {tx : String} (i : Nat) (hi : sN[i]? = some (idx, tx)) (d : decode b pc = .ok (.ldc idx, 2)) (kk : V X G T σ L (.ref (G.2.2.2.1 i) :: st) (pc + 2)) : V X G T σ L st pc := fun H locs ls hP hS hl => va_ldcS B.1 B.2.1 B.2.2.1 (B.2.2.2.2.1.2.2.2.1 i _ hi) d (kk H locs ls hP hS hl)
theorem r_gsC (B : Bd l X G b own nL D) {idx : Nat} (w : Cond.fieldLink own idx "java/lang/String" "COMPACT_STRINGS" "Z" ∈ lwg) (d : decode b pc = .ok (.getstatic idx, 3)) (kk : V X G T σ L (.int 1 :: st) (pc + 3)) : V X G T σ L st pc := fun H locs ls hP hS hl => va_gets B.1 B.2.1 B.2.2.2.2.1.2.1.2.2.2.2.2.1 hS B.2.2.1 (B.2.2.2.1 _ w) (fun _ h => h) d (kk H locs ls hP hS hl)
theorem r_gsF (B : Bd l X G b own nL D) {idx : Nat} (w : Cond.fieldLink own idx "jdk/internal/util/Preconditions" "SIOOBE_FORMATTER" "Ljava/util/function/BiFunction;" ∈ lwg) (d : decode b pc = .ok (.getstatic idx, 3)) (kk : ∀ v : Value, (v = .null ∨ ∃ t, v = .ref t) → V X G T σ L (v :: st) (pc + 3)) : V X G T σ L st pc := fun H locs ls hP hS hl => by
  rcases B.2.2.2.2.1.2.1.2.2.2.2.2.2 with h | ⟨t, h⟩
  · exact va_gets B.1 B.2.1 h hS B.2.2.1 (B.2.2.2.1 _ w) (fun _ h => h) d (kk .null (Or.inl rfl) H locs ls hP hS hl)
  · exact va_gets B.1 B.2.1 h hS B.2.2.1 (B.2.2.2.1 _ w) (fun _ h => h) d (kk (.ref t) (Or.inr ⟨t, rfl⟩) H locs ls hP hS hl)
theorem r_getSv (B : Bd l X G b own nL D) {idx i : Nat} (hi : i < 18) (w : Cond.fieldLink own idx "java/lang/String" "value" "[B" ∈ lwg) (d : decode b pc = .ok (.getfield idx, 3)) (kk : V X G T σ L (.ref (G.2.2.2.2.1 i) :: st) (pc + 3)) : V X G T σ L (.ref (G.2.2.2.1 i) :: st) pc := fun H locs ls hP hS hl => vk_getf B.1 B.2.1 (B.2.2.2.2.1.2.1.2.2.2.2.1.1 i hi).2.2.1 hS B.2.2.1 (B.2.2.2.1 _ w) (fun _ h => h) d (kk H locs ls hP hS hl)
theorem r_getSc (B : Bd l X G b own nL D) {idx i : Nat} (hi : i < 18) (w : Cond.fieldLink own idx "java/lang/String" "coder" "B" ∈ lwg) (d : decode b pc = .ok (.getfield idx, 3)) (kk : V X G T σ L (.int 0 :: st) (pc + 3)) : V X G T σ L (.ref (G.2.2.2.1 i) :: st) pc := fun H locs ls hP hS hl => vk_getf B.1 B.2.1 (B.2.2.2.2.1.2.1.2.2.2.2.1.1 i hi).2.1 hS B.2.2.1 (B.2.2.2.1 _ w) (fun _ h => h) d (kk H locs ls hP hS hl)
theorem r_Slen (B : Bd l X G b own nL D) {i : Nat} (hi : i < 18) (d : decode b pc = .ok (.arraylength, 1)) (kk : V X G T σ L (.int (nI (sL.getD i 0)) :: st) (pc + 1)) : V X G T σ L (.ref (G.2.2.2.2.1 i) :: st) pc := fun H locs ls hP hS hl => va_tlen B.1 B.2.1 (B.2.2.2.2.1.2.1.2.2.2.2.1.1 i hi).2.2.2 hS rfl d (kk H locs ls hP hS hl)
theorem r_Sld (B : Bd l X G b own nL D) {i k : Nat} {x : Int32} (hi : i < 18) (hk : ix x (sL.getD i 0) k) (d : decode b pc = .ok (.baload, 1)) (kk : V X G T σ L (.int ((sB.getD i []).getD k 0) :: st) (pc + 1)) : V X G T σ L (.int x :: .ref (G.2.2.2.2.1 i) :: st) pc := fun H locs ls hP hS hl => by
  obtain ⟨h1, rfl⟩ := hk
  exact va_tb B.1 B.2.1 (B.2.2.2.2.1.2.1.2.2.2.2.1.1 i hi).2.2.2 hS h1 rfl d (kk H locs ls hP hS hl)
theorem r_i2c (B : Bd l X G b own nL D) {x : Int32} (d : decode b pc = .ok (.i2c, 1)) (kk : V X G T σ L (.int (x.toUInt32 % 65536).toInt32 :: st) (pc + 1)) : V X G T σ L (.int x :: st) pc := fun H locs ls hP hS hl => lv_i2c B.1 B.2.1 d rfl (kk H locs ls hP hS hl)
variable {M : MR} {d idx n : Nat} {Q : Option Value → Sg → Prop}
theorem r_cVs (B : Bd l X G b own nL D) {i : Nat} (hi : i < 18) {As rest : List Value} (K : KV own idx M n) (hM : M.1.cls = "java/lang/String") (c : Ct l G M d T (.ref (G.2.2.2.1 i) :: As) σ Q) (hD : d + 1 ≤ D) (hn : As.length = n) (hs : sm rest ≤ 8) (dg : decode b pc = .ok (.invokevirtual idx, 3))
    (kk : ∀ (r : Option Value) (τ : Sg), Q r τ → V X G T τ L (r.toList ++ rest) (pc + 3)) : V X G T σ L (As.reverse ++ .ref (G.2.2.2.1 i) :: rest) pc := by
  refine v_run (a := (Value.ref (G.2.2.2.1 i) :: As).toArray) (fun H locs ls hP hS hl => ?_) kk
  obtain ⟨⟨k1, k2, k3, k4, k5⟩, k6, k7⟩ := K
  have hG : GoodIn lwg (wsV own idx M.1.cls M.1 (wM M)) := goodIn_cons k1 (gw k1) (goodIn_cons k2 (gw k2) (goodIn_cons k3 (gw k3) (goodIn_cons k4 (gw k4) (wM_good k5))))
  have hl6 := B.2.2.2.2.2.1
  subst hl6
  have hr := vk_recv (B.2.2.2.2.1.2.1.2.2.2.2.1) hi hS
  rw [← hM] at hr
  exact va_runV (C := M.1.cls) (bytes := M.2.1) (maxL := M.2.2.1) (ret := M.2.2.2) (As := As) (rest := rest) ⟨B.1, B.2.1, rfl, B.2.2.1, B.2.2.2.1⟩ c (cwV n B.2.2.2.1 hG rfl rfl rfl ⟨rfl, k6⟩ (fitR B k7 hD)) ⟨blind _, hr, fun U hU hW => ⟨rfl, PRE.at B.2.2.2.2.1 hP hS hU hW⟩⟩ rfl hn hl.1 rfl (lv_room hs) dg ⟨by rw [Nat.add_zero]; exact B.2.2.2.2.2.2.2.1, by rw [Nat.add_zero]; exact B.2.2.2.2.2.2.2.2.1⟩
theorem r_cVsi0 (B : Bd l X G b own nL D) {i : Nat} (hi : i < 18) {rest : List Value} {x : Int32} {τ : Sg} (K : KV own idx M 0) (hM : M.1.cls = "java/lang/String") (c : CtI l G M d T [.ref (G.2.2.2.1 i)] σ x τ) (hD : d + 1 ≤ D) (hs : sm rest ≤ 8) (dg : decode b pc = .ok (.invokevirtual idx, 3)) (kk : V X G T τ L (.int x :: rest) (pc + 3)) : V X G T σ L (.ref (G.2.2.2.1 i) :: rest) pc := r_cVs B hi (As := []) K hM c hD rfl hs dg (fun r ρ h => by obtain ⟨rfl, rfl⟩ := h; exact kk)
theorem r_cVsi1 (B : Bd l X G b own nL D) {i : Nat} (hi : i < 18) {a1 : Value} {rest : List Value} {x : Int32} {τ : Sg} (K : KV own idx M 1) (hM : M.1.cls = "java/lang/String") (c : CtI l G M d T [.ref (G.2.2.2.1 i), a1] σ x τ) (hD : d + 1 ≤ D) (hs : sm rest ≤ 8) (dg : decode b pc = .ok (.invokevirtual idx, 3)) (kk : V X G T τ L (.int x :: rest) (pc + 3)) : V X G T σ L (a1 :: .ref (G.2.2.2.1 i) :: rest) pc := r_cVs B hi (As := [a1]) K hM c hD rfl hs dg (fun r ρ h => by obtain ⟨rfl, rfl⟩ := h; exact kk)
end RSt

set_option maxHeartbeats 4000000 in
set_option maxRecDepth 20000 in
theorem c_coder (l : Launch) (G : GG) (T : List Sh) (σ : Sg) {i : Nat} (hi : i < 18) : CtI l G mJ0_coder_7d493 0 T [.ref (G.2.2.2.1 i)] σ 0 σ := by
  refine ct_intro (by decide) (Nat.le_of_ble_eq_true rfl) (fun X B R => ?_)
  show V X G T σ [some (.ref (G.2.2.2.1 i))] [] 0
  refine r_gsC (pc := 0) B q596 dJ0_coder_7d493_0 ?_
  refine r_if_eq (pc := 3) B 13 dJ0_coder_7d493_3 (by decide) (fun h3 => absurd h3 (by decide)) (fun h3 => ?_)
  refine r_aload_n (pc := 6) B dJ0_coder_7d493_6 rfl ?_
  refine r_getSc (pc := 7) B hi q1240 dJ0_coder_7d493_7 ?_
  refine r_goto (pc := 10) B 14 dJ0_coder_7d493_10 (by decide) ?_
  exact r_tret (pc := 14) B R rfl dJ0_coder_7d493_14 ⟨rfl, rfl⟩

set_option maxHeartbeats 4000000 in
set_option maxRecDepth 20000 in
theorem c_isLatin1 (l : Launch) (G : GG) (T : List Sh) (σ : Sg) {i : Nat} (hi : i < 18) : CtI l G mJ0_isLatin1_aae02 0 T [.ref (G.2.2.2.1 i)] σ 1 σ := by
  refine ct_intro (by decide) (Nat.le_of_ble_eq_true rfl) (fun X B R => ?_)
  show V X G T σ [some (.ref (G.2.2.2.1 i))] [] 0
  refine r_gsC (pc := 0) B q596 dJ0_isLatin1_aae02_0 ?_
  refine r_if_eq (pc := 3) B 17 dJ0_isLatin1_aae02_3 (by decide) (fun h3 => absurd h3 (by decide)) (fun h3 => ?_)
  refine r_aload_n (pc := 6) B dJ0_isLatin1_aae02_6 rfl ?_
  refine r_getSc (pc := 7) B hi q1240 dJ0_isLatin1_aae02_7 ?_
  refine r_if_ne (pc := 10) B 17 dJ0_isLatin1_aae02_10 (by decide) (fun h10 => absurd rfl h10) (fun h10 => ?_)
  refine r_iconst (pc := 13) (x := 1) B dJ0_isLatin1_aae02_13 (by decide) ?_
  refine r_goto (pc := 14) B 18 dJ0_isLatin1_aae02_14 (by decide) ?_
  exact r_zret (pc := 18) B R (by decide) dJ0_isLatin1_aae02_18 ⟨rfl, rfl⟩

set_option maxHeartbeats 4000000 in
set_option maxRecDepth 20000 in
theorem c_strLen (l : Launch) (G : GG) (T : List Sh) (σ : Sg) {i : Nat} (hi : i < 18) : CtI l G mJ0_length_8abf5 1 T [.ref (G.2.2.2.1 i)] σ (nI (sL.getD i 0)) σ := by
  refine ct_intro (by decide) (Nat.le_of_ble_eq_true rfl) (fun X B R => ?_)
  show V X G T σ [some (.ref (G.2.2.2.1 i))] [] 0
  refine r_aload_n (pc := 0) B dJ0_length_8abf5_0 rfl ?_
  refine r_getSv (pc := 1) B hi q1239 dJ0_length_8abf5_1 ?_
  refine r_Slen (pc := 4) B hi dJ0_length_8abf5_4 ?_
  refine r_aload_n (pc := 5) B dJ0_length_8abf5_5 rfl ?_
  refine r_cVsi0 (pc := 6) B hi KJ0_335 rfl (c_coder l G _ _ hi) (by decide) (Nat.le_of_ble_eq_true rfl) dJ0_length_8abf5_6 ?_
  refine r_ishr (pc := 9) B dJ0_length_8abf5_9 ?_
  rw [sb_shr0]
  exact r_iret (pc := 10) B R dJ0_length_8abf5_10 ⟨rfl, rfl⟩

set_option maxHeartbeats 4000000 in
set_option maxRecDepth 20000 in
theorem c_ck3 (l : Launch) (G : GG) (T : List Sh) (σ : Sg) {x n : Int32} (v : Value) (hv : v = .null ∨ ∃ t, v = .ref t) (h0 : ¬ x < 0) (h1 : x < n) : CtI l G mJ3_checkIndex_8e157 0 T [.int x, .int n, v] σ x σ := by
  rcases hv with rfl | ⟨t, rfl⟩
  all_goals
    refine ct_intro (by decide) (Nat.le_of_ble_eq_true rfl) (fun X B R => ?_)
    first | show V X G T σ [some (.int x), some (.int n), some .null] [] 0 | show V X G T σ [some (.int x), some (.int n), some (.ref t)] [] 0
    refine r_iload_n (pc := 0) B dJ3_checkIndex_8e157_0 rfl ?_
    refine r_if_lt (pc := 1) B 9 dJ3_checkIndex_8e157_1 (by decide) (fun h => absurd h h0) (fun h => ?_)
    refine r_iload_n (pc := 4) B dJ3_checkIndex_8e157_4 rfl ?_
    refine r_iload_n (pc := 5) B dJ3_checkIndex_8e157_5 rfl ?_
    refine r_icmp_lt (pc := 6) B 16 dJ3_checkIndex_8e157_6 (by decide) (fun h => ?_) (fun h => absurd h1 h)
    refine r_iload_n (pc := 16) B dJ3_checkIndex_8e157_16 rfl ?_
    exact r_iret (pc := 17) B R dJ3_checkIndex_8e157_17 ⟨rfl, rfl⟩

set_option maxHeartbeats 4000000 in
set_option maxRecDepth 20000 in
theorem c_ck0 (l : Launch) (G : GG) (T : List Sh) (σ : Sg) {x n : Int32} (h0 : ¬ x < 0) (h1 : x < n) : CtV l G mJ0_checkIndex_df160 1 T [.int x, .int n] σ σ := by
  refine ct_intro (by decide) (Nat.le_of_ble_eq_true rfl) (fun X B R => ?_)
  show V X G T σ [some (.int x), some (.int n)] [] 0
  refine r_iload_n (pc := 0) B dJ0_checkIndex_df160_0 rfl ?_
  refine r_iload_n (pc := 1) B dJ0_checkIndex_df160_1 rfl ?_
  refine r_gsF (pc := 2) B q612 dJ0_checkIndex_df160_2 (fun v hv => ?_)
  refine r_cSi3 (pc := 5) B KJ0_1059 (c_ck3 l G _ _ v hv h0 h1) (by decide) (Nat.le_of_ble_eq_true rfl) dJ0_checkIndex_df160_5 ?_
  refine r_pop (pc := 8) B rfl dJ0_checkIndex_df160_8 ?_
  exact r_vret (pc := 9) B R dJ0_checkIndex_df160_9 ⟨rfl, rfl⟩
def chS (i k : Nat) : Int32 := (((sB.getD i []).getD k 0 &&& 255).toUInt32 % 65536).toInt32
theorem chS_eq : ∀ i, i < 18 → ∀ k, k < sL.getD i 0 → chS i k = (sB.getD i []).getD k 0 := by decide +kernel
theorem sL_le : ∀ i, i < 18 → sL.getD i 0 ≤ 8 := by decide +kernel

set_option maxHeartbeats 4000000 in
set_option maxRecDepth 20000 in
theorem c_lat (l : Launch) (G : GG) (T : List Sh) (σ : Sg) {i k : Nat} (hi : i < 18) (hk : k < sL.getD i 0) : CtI l G mJ1_charAt_3b067 2 T [.ref (G.2.2.2.2.1 i), .int (nI k)] σ (chS i k) σ := by
  have h8 := sL_le i hi
  refine ct_intro (by decide) (Nat.le_of_ble_eq_true rfl) (fun X B R => ?_)
  show V X G T σ [some (.ref (G.2.2.2.2.1 i)), some (.int (nI k))] [] 0
  refine r_iload_n (pc := 0) B dJ1_charAt_3b067_0 rfl ?_
  refine r_aload_n (pc := 1) B dJ1_charAt_3b067_1 rfl ?_
  refine r_Slen (pc := 2) B hi dJ1_charAt_3b067_2 ?_
  refine r_cSv2 (pc := 3) B KJ1_9 (c_ck0 l G _ _ (nI_pos (by omega)) ((nI_ltI (by omega) (by omega)).mpr hk)) (by decide) (Nat.le_of_ble_eq_true rfl) dJ1_charAt_3b067_3 ?_
  refine r_aload_n (pc := 6) B dJ1_charAt_3b067_6 rfl ?_
  refine r_iload_n (pc := 7) B dJ1_charAt_3b067_7 rfl ?_
  refine r_Sld (pc := 8) B hi (ix_nI hk (by omega)) dJ1_charAt_3b067_8 ?_
  refine r_sipush (pc := 9) (x := 255) B dJ1_charAt_3b067_9 (by decide) ?_
  refine r_iand (pc := 12) B dJ1_charAt_3b067_12 ?_
  refine r_i2c (pc := 13) B dJ1_charAt_3b067_13 ?_
  exact r_tret (pc := 14) B R (pk_nc _) dJ1_charAt_3b067_14 ⟨rfl, rfl⟩

set_option maxHeartbeats 4000000 in
set_option maxRecDepth 20000 in
theorem c_charAt (l : Launch) (G : GG) (T : List Sh) (σ : Sg) {i k : Nat} (hi : i < 18) (hk : k < sL.getD i 0) : CtI l G mJ0_charAt_5068e 3 T [.ref (G.2.2.2.1 i), .int (nI k)] σ (chS i k) σ := by
  refine ct_intro (by decide) (Nat.le_of_ble_eq_true rfl) (fun X B R => ?_)
  show V X G T σ [some (.ref (G.2.2.2.1 i)), some (.int (nI k))] [] 0
  refine r_aload_n (pc := 0) B dJ0_charAt_5068e_0 rfl ?_
  refine r_cVsi0 (pc := 1) B hi KJ0_492 rfl (c_isLatin1 l G _ _ hi) (by decide) (Nat.le_of_ble_eq_true rfl) dJ0_charAt_5068e_1 ?_
  refine r_if_eq (pc := 4) B 16 dJ0_charAt_5068e_4 (by decide) (fun h4 => absurd h4 (by decide)) (fun h4 => ?_)
  refine r_aload_n (pc := 7) B dJ0_charAt_5068e_7 rfl ?_
  refine r_getSv (pc := 8) B hi q1239 dJ0_charAt_5068e_8 ?_
  refine r_iload_n (pc := 11) B dJ0_charAt_5068e_11 rfl ?_
  refine r_cSi2 (pc := 12) B KJ0_495 (c_lat l G _ _ hi hk) (by decide) (Nat.le_of_ble_eq_true rfl) dJ0_charAt_5068e_12 ?_
  exact r_tret (pc := 15) B R (by unfold chS; exact pk_nc _) dJ0_charAt_5068e_15 ⟨rfl, rfl⟩


/-! the law's loop -/
theorem sw_ti : ∀ n, n < 3073 → (nI n - 6).toInt = (n : Int) - 6 := fun n h => by
  show (nI n - nI 6).toInt = _
  rw [Int32.toInt_sub, nI_toInt (by omega), nI_toInt (by omega), Int.bmod_eq_of_le] <;> omega
theorem sw_tj : ∀ n, n < 3100 → (nI n).toInt = (n : Int) := fun n h => nI_toInt (by omega)
set_option maxHeartbeats 4000000 in
set_option maxRecDepth 20000 in
theorem L_33 {l : Launch} {X : CX} {G : GG} {b Ls : Nat} {sc : Nat → Int32} (B : Bd l X G code RL 4 13) (hX : va_X b Ls sc (xs X) (xs X).heap) (hbl : b < (xs X).heap.size) (hbA : ¬ AA G b) (hL : Ls ≤ 3072) {i : Nat} {σ : Sg} (I : Inv i σ) (hi : i ≤ 512) (hr : 6 * i + 6 ≤ Ls) (x : Int32) (K : ∀ υ, wI (i + 1) υ → V X G shT υ [some (.ref b), some (.ref (ad G 0)), some (.ref (ad G 65)), some (.int (nI (6 * i)))] [] 1356) : V X G shT σ [some (.ref b), some (.ref (ad G 0)), some (.ref (ad G 65)), some (.int (nI (6 * i)))] [.int x] 33 := by
  refine r_tsC (pc := 33) B 0 212 dL_law_33 (by decide) (by decide) rfl (by decide) (fun h33_0 => ?_) (fun h33_0 => ?_)
  · exact L_step B hX hbl hbA hL I hi hr K
  refine r_tsC (pc := 33) B 1 255 dL_law_33 (by decide) (by decide) rfl (by decide) (fun h33_1 => ?_) (fun h33_1 => ?_)
  · exact L_stepOf B hX hbl hbA hL I hi hr K
  refine r_tsC (pc := 33) B 2 288 dL_law_33 (by decide) (by decide) rfl (by decide) (fun h33_2 => ?_) (fun h33_2 => ?_)
  · exact L_weather B hX hbl hbA hL I hi hr K
  refine r_tsC (pc := 33) B 3 321 dL_law_33 (by decide) (by decide) rfl (by decide) (fun h33_3 => ?_) (fun h33_3 => ?_)
  · exact L_umbrella B hX hbl hbA hL I hi hr K
  refine r_tsC (pc := 33) B 4 344 dL_law_33 (by decide) (by decide) rfl (by decide) (fun h33_4 => ?_) (fun h33_4 => ?_)
  · exact L_of B hX hbl hbA hL I hi hr K
  refine r_tsC (pc := 33) B 5 377 dL_law_33 (by decide) (by decide) rfl (by decide) (fun h33_5 => ?_) (fun h33_5 => ?_)
  · exact L_change B hX hbl hbA hL I hi hr K
  refine r_tsC (pc := 33) B 6 420 dL_law_33 (by decide) (by decide) rfl (by decide) (fun h33_6 => ?_) (fun h33_6 => ?_)
  · exact L_bears B hX hbl hbA hL I hi hr K
  refine r_tsC (pc := 33) B 7 463 dL_law_33 (by decide) (by decide) rfl (by decide) (fun h33_7 => ?_) (fun h33_7 => ?_)
  · exact L_go B hX hbl hbA hL I hi hr K
  refine r_tsC (pc := 33) B 8 486 dL_law_33 (by decide) (by decide) rfl (by decide) (fun h33_8 => ?_) (fun h33_8 => ?_)
  · exact L_now B hX hbl hbA hL I hi hr K
  refine r_tsC (pc := 33) B 9 509 dL_law_33 (by decide) (by decide) rfl (by decide) (fun h33_9 => ?_) (fun h33_9 => ?_)
  · exact L_ahead B hX hbl hbA hL I hi hr K
  refine r_tsC (pc := 33) B 10 552 dL_law_33 (by decide) (by decide) rfl (by decide) (fun h33_10 => ?_) (fun h33_10 => ?_)
  · exact L_home B hX hbl hbA hL I hi hr K
  refine r_tsC (pc := 33) B 11 575 dL_law_33 (by decide) (by decide) rfl (by decide) (fun h33_11 => ?_) (fun h33_11 => ?_)
  · exact L_homeWith B hX hbl hbA hL I hi hr K
  refine r_tsC (pc := 33) B 12 608 dL_law_33 (by decide) (by decide) rfl (by decide) (fun h33_12 => ?_) (fun h33_12 => ?_)
  · exact L_whup B hX hbl hbA hL I hi hr K
  refine r_tsC (pc := 33) B 13 631 dL_law_33 (by decide) (by decide) rfl (by decide) (fun h33_13 => ?_) (fun h33_13 => ?_)
  · exact L_first B hX hbl hbA hL I hi hr K
  refine r_tsC (pc := 33) B 14 644 dL_law_33 (by decide) (by decide) rfl (by decide) (fun h33_14 => ?_) (fun h33_14 => ?_)
  · exact L_habitFor B hX hbl hbA hL I hi hr K
  refine r_tsC (pc := 33) B 15 667 dL_law_33 (by decide) (by decide) rfl (by decide) (fun h33_15 => ?_) (fun h33_15 => ?_)
  · exact L_heldFor B hX hbl hbA hL I hi hr K
  refine r_tsC (pc := 33) B 16 690 dL_law_33 (by decide) (by decide) rfl (by decide) (fun h33_16 => ?_) (fun h33_16 => ?_)
  · exact L_kindFor B hX hbl hbA hL I hi hr K
  refine r_tsC (pc := 33) B 17 713 dL_law_33 (by decide) (by decide) rfl (by decide) (fun h33_17 => ?_) (fun h33_17 => ?_)
  · exact L_roofFor B hX hbl hbA hL I hi hr K
  refine r_tsC (pc := 33) B 18 736 dL_law_33 (by decide) (by decide) rfl (by decide) (fun h33_18 => ?_) (fun h33_18 => ?_)
  · exact L_waitFor B hX hbl hbA hL I hi hr K
  refine r_tsC (pc := 33) B 19 759 dL_law_33 (by decide) (by decide) rfl (by decide) (fun h33_19 => ?_) (fun h33_19 => ?_)
  · exact L_gustFor B hX hbl hbA hL I hi hr K
  refine r_tsC (pc := 33) B 20 782 dL_law_33 (by decide) (by decide) rfl (by decide) (fun h33_20 => ?_) (fun h33_20 => ?_)
  · exact L_ribsFor B hX hbl hbA hL I hi hr K
  refine r_tsC (pc := 33) B 21 805 dL_law_33 (by decide) (by decide) rfl (by decide) (fun h33_21 => ?_) (fun h33_21 => ?_)
  · exact L_fits B hX hbl hbA hL I hi hr K
  refine r_tsC (pc := 33) B 22 838 dL_law_33 (by decide) (by decide) rfl (by decide) (fun h33_22 => ?_) (fun h33_22 => ?_)
  · exact L_kinds B hX hbl hbA hL I hi hr K
  refine r_tsC (pc := 33) B 23 871 dL_law_33 (by decide) (by decide) rfl (by decide) (fun h33_23 => ?_) (fun h33_23 => ?_)
  · exact L_gusts B hX hbl hbA hL I hi hr K
  refine r_tsC (pc := 33) B 24 894 dL_law_33 (by decide) (by decide) rfl (by decide) (fun h33_24 => ?_) (fun h33_24 => ?_)
  · exact L_odds B hX hbl hbA hL I hi hr K
  refine r_tsC (pc := 33) B 25 928 dL_law_33 (by decide) (by decide) rfl (by decide) (fun h33_25 => ?_) (fun h33_25 => ?_)
  · exact L_seed B hX hbl hbA hL I hi hr K
  refine r_tsC (pc := 33) B 26 951 dL_law_33 (by decide) (by decide) rfl (by decide) (fun h33_26 => ?_) (fun h33_26 => ?_)
  · exact L_feed B hX hbl hbA hL I hi hr K
  refine r_tsC (pc := 33) B 27 984 dL_law_33 (by decide) (by decide) rfl (by decide) (fun h33_27 => ?_) (fun h33_27 => ?_)
  · exact L_wipe B hX hbl hbA hL I hi hr K
  refine r_tsC (pc := 33) B 28 997 dL_law_33 (by decide) (by decide) rfl (by decide) (fun h33_28 => ?_) (fun h33_28 => ?_)
  · exact L_text B hX hbl hbA hL I hi hr K
  refine r_tsC (pc := 33) B 29 1010 dL_law_33 (by decide) (by decide) rfl (by decide) (fun h33_29 => ?_) (fun h33_29 => ?_)
  · exact L_hold B hX hbl hbA hL I hi hr K
  refine r_tsC (pc := 33) B 30 1043 dL_law_33 (by decide) (by decide) rfl (by decide) (fun h33_30 => ?_) (fun h33_30 => ?_)
  · exact L_as B hX hbl hbA hL I hi hr K
  refine r_tsC (pc := 33) B 31 1076 dL_law_33 (by decide) (by decide) rfl (by decide) (fun h33_31 => ?_) (fun h33_31 => ?_)
  · exact L_sheet B hX hbl hbA hL I hi hr K
  refine r_tsC (pc := 33) B 32 1119 dL_law_33 (by decide) (by decide) rfl (by decide) (fun h33_32 => ?_) (fun h33_32 => ?_)
  · exact L_write B hX hbl hbA hL I hi hr K
  refine r_tsC (pc := 33) B 33 1162 dL_law_33 (by decide) (by decide) rfl (by decide) (fun h33_33 => ?_) (fun h33_33 => ?_)
  · exact L_copy B hX hbl hbA hL I hi hr K
  refine r_tsC (pc := 33) B 34 1225 dL_law_33 (by decide) (by decide) rfl (by decide) (fun h33_34 => ?_) (fun h33_34 => ?_)
  · exact L_load B hX hbl hbA hL I hi hr K
  refine r_tsC (pc := 33) B 35 1248 dL_law_33 (by decide) (by decide) rfl (by decide) (fun h33_35 => ?_) (fun h33_35 => ?_)
  · exact L_judge B hX hbl hbA hL I hi hr K
  refine r_tsC (pc := 33) B 36 1271 dL_law_33 (by decide) (by decide) rfl (by decide) (fun h33_36 => ?_) (fun h33_36 => ?_)
  · exact L_image B hX hbl hbA hL I hi hr K
  refine r_tsC (pc := 33) B 37 1284 dL_law_33 (by decide) (by decide) rfl (by decide) (fun h33_37 => ?_) (fun h33_37 => ?_)
  · exact L_undo B hX hbl hbA hL I hi hr K
  refine r_tsC (pc := 33) B 38 1297 dL_law_33 (by decide) (by decide) rfl (by decide) (fun h33_38 => ?_) (fun h33_38 => ?_)
  · exact L_tear B hX hbl hbA hL I hi hr K
  refine r_tsC (pc := 33) B 39 1310 dL_law_33 (by decide) (by decide) rfl (by decide) (fun h33_39 => ?_) (fun h33_39 => ?_)
  · exact L_count B hX hbl hbA hL I hi hr K
  refine r_tsC (pc := 33) B 40 1333 dL_law_33 (by decide) (by decide) rfl (by decide) (fun h33_40 => ?_) (fun h33_40 => ?_)
  · exact L_status B hX hbl hbA hL I hi hr K
  refine r_tsD (pc := 33) B 1356 dL_law_33 (by have e0 := ts_in (c := 0) h33_0 rfl; have e1 := ts_in (c := 1) h33_1 rfl; have e2 := ts_in (c := 2) h33_2 rfl; have e3 := ts_in (c := 3) h33_3 rfl; have e4 := ts_in (c := 4) h33_4 rfl; have e5 := ts_in (c := 5) h33_5 rfl; have e6 := ts_in (c := 6) h33_6 rfl; have e7 := ts_in (c := 7) h33_7 rfl; have e8 := ts_in (c := 8) h33_8 rfl; have e9 := ts_in (c := 9) h33_9 rfl; have e10 := ts_in (c := 10) h33_10 rfl; have e11 := ts_in (c := 11) h33_11 rfl; have e12 := ts_in (c := 12) h33_12 rfl; have e13 := ts_in (c := 13) h33_13 rfl; have e14 := ts_in (c := 14) h33_14 rfl; have e15 := ts_in (c := 15) h33_15 rfl; have e16 := ts_in (c := 16) h33_16 rfl; have e17 := ts_in (c := 17) h33_17 rfl; have e18 := ts_in (c := 18) h33_18 rfl; have e19 := ts_in (c := 19) h33_19 rfl; have e20 := ts_in (c := 20) h33_20 rfl; have e21 := ts_in (c := 21) h33_21 rfl; have e22 := ts_in (c := 22) h33_22 rfl; have e23 := ts_in (c := 23) h33_23 rfl; have e24 := ts_in (c := 24) h33_24 rfl; have e25 := ts_in (c := 25) h33_25 rfl; have e26 := ts_in (c := 26) h33_26 rfl; have e27 := ts_in (c := 27) h33_27 rfl; have e28 := ts_in (c := 28) h33_28 rfl; have e29 := ts_in (c := 29) h33_29 rfl; have e30 := ts_in (c := 30) h33_30 rfl; have e31 := ts_in (c := 31) h33_31 rfl; have e32 := ts_in (c := 32) h33_32 rfl; have e33 := ts_in (c := 33) h33_33 rfl; have e34 := ts_in (c := 34) h33_34 rfl; have e35 := ts_in (c := 35) h33_35 rfl; have e36 := ts_in (c := 36) h33_36 rfl; have e37 := ts_in (c := 37) h33_37 rfl; have e38 := ts_in (c := 38) h33_38 rfl; have e39 := ts_in (c := 39) h33_39 rfl; have e40 := ts_in (c := 40) h33_40 rfl; omega) (by decide) ?_
  exact K σ (o_id I.1)
set_option maxHeartbeats 4000000 in
set_option maxRecDepth 20000 in
theorem law_loop {l : Launch} {X : CX} {G : GG} {b Ls : Nat} {sc : Nat → Int32} (B : Bd l X G code RL 4 13) (hX : va_X b Ls sc (xs X) (xs X).heap) (hbl : b < (xs X).heap.size) (hbA : ¬ AA G b) (hL : Ls ≤ 3072) (hE : ∀ (σ : Sg) (i : Nat), V X G shT σ [some (.ref b), some (.ref (ad G 0)), some (.ref (ad G 65)), some (.int (nI (6 * i)))] [] 1362) : ∀ (n i : Nat) (σ : Sg), i + n = 513 → Inv i σ → V X G shT σ [some (.ref b), some (.ref (ad G 0)), some (.ref (ad G 65)), some (.int (nI (6 * i)))] [] 18 := by
  intro n
  induction n with
  | zero =>
    intro i σ hin I
    refine r_iload_n (pc := 18) B dL_law_18 rfl ?_
    refine r_aload_n (pc := 19) B dL_law_19 rfl ?_
    refine r_slen (pc := 20) B hX hbl hbA dL_law_20 ?_
    refine r_bipush (pc := 21) (x := 6) B dL_law_21 (by decide) ?_
    refine r_isub (pc := 23) B dL_law_23 ?_
    refine r_icmp_gt (pc := 24) B 1362 dL_law_24 (by decide) (fun h => hE σ i) (fun h => ?_)
    rw [Int32.lt_iff_toInt_lt, sw_ti Ls (by omega), sw_tj (6 * i) (by omega)] at h
    exact absurd h (by omega)
  | succ n ih =>
    intro i σ hin I
    refine r_iload_n (pc := 18) B dL_law_18 rfl ?_
    refine r_aload_n (pc := 19) B dL_law_19 rfl ?_
    refine r_slen (pc := 20) B hX hbl hbA dL_law_20 ?_
    refine r_bipush (pc := 21) (x := 6) B dL_law_21 (by decide) ?_
    refine r_isub (pc := 23) B dL_law_23 ?_
    refine r_icmp_gt (pc := 24) B 1362 dL_law_24 (by decide) (fun h => hE σ i) (fun h => ?_)
    rw [Int32.lt_iff_toInt_lt, sw_ti Ls (by omega), sw_tj (6 * i) (by omega)] at h
    have hr : 6 * i + 6 ≤ Ls := by omega
    refine r_aload_n (pc := 27) B dL_law_27 rfl ?_
    refine r_iload_n (pc := 28) B dL_law_28 rfl ?_
    refine r_sld (pc := 29) (j := 6 * i) B hX hbl hbA rfl (by omega) (by omega) dL_law_29 ?_
    refine r_bipush (pc := 30) (x := 63) B dL_law_30 (by decide) ?_
    refine r_iand (pc := 32) B dL_law_32 ?_
    refine L_33 B hX hbl hbA hL I (by omega) hr _ (fun υ hI => ?_)
    refine V.nz hI ?_
    refine r_iinc_3 (pc := 1356) (y := nI (6 * (i + 1))) B dL_law_1356 (nI_add (6 * i) 6) (by decide) rfl ?_
    refine r_goto (pc := 1359) B 18 dL_law_1359 (by decide) ?_
    exact ih (i + 1) _ (by omega) hI.nz

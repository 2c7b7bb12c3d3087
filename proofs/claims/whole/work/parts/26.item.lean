theorem W31 : isW 31 := Or.inr (Or.inr rfl)
theorem S32 : isS 32 := W31.s
theorem U38 {u : Nat} (h : u < 8) : isU (38 + u) := W31.u h
theorem el_31 {u : Nat} (h : u < 8) : ([some (31 + 7), some (31 + 8), some (31 + 9), some (31 + 10), some (31 + 11), some (31 + 12), some (31 + 13), some (31 + 14)] : List (Option Nat))[u]? = some (some (38 + u)) := el_u (W := 31) h
theorem rdW.mark {ζ σ : Sg} {L : Nat} {t : TS} {w : Nat → Int32} (h : rdW ζ σ L t w) {u f : Nat} (hu : u < 8) (hf : f < 8) (v : Int32) : rdW ζ (st2 σ (38 + u) f v) L t (upd w (53 + 8 * u + f) v) := by
  have e := wr_st2 (W := 31) (m := 53 + 8 * u + f) (c := 7 + u) (i := f) v h.is (by omega) (lc_u hu hf) (by omega)
  rw [show 31 + (7 + u) = 38 + u by omega] at e
  exact h.wr e
theorem rdW.st {ζ σ : Sg} {L : Nat} {t : TS} {w : Nat → Int32} (h : rdW ζ σ L t w) {m c i : Nat} (hm : m < 127) (hc : lcO m = (c, i)) (hc15 : c < 15) (v : Int32) : rdW ζ (st2 σ (31 + c) i v) L t (upd w m v) := h.wr (wr_st2 (W := 31) v h.is hm hc hc15)
theorem rdW.add {ζ σ : Sg} {L : Nat} {t : TS} {w : Nat → Int32} (h : rdW ζ σ L t w) {n : Nat} (hn : n < 8) (k : Int32) : rdW ζ (st2 (wrU σ (31 + 7 + n) (newU k)) 31 2 (nI (n + 1))) L t (upd (putU w n (newU k)) 0 (nI (n + 1))) := by
  have e1 : isWr 31 σ (wrU σ (31 + 7 + n) (newU k)) (putU w n (newU k)) := ⟨fun j hj => by rw [vw_wrU hn j hj]; simp only [putU]; split <;> first | rfl | exact h.2.1 j hj, wrU_fr hn⟩
  exact h.wr (wr_st2 (W := 31) (m := 0) (c := 0) (i := 2) (nI (n + 1)) e1 (by omega) rfl (by omega))

set_option maxHeartbeats 4000000 in
set_option maxRecDepth 20000 in
theorem c_readMark (l : Launch) (G : GG) {ζ σ : Sg} {L : Nat} {t : TS} {w : Nat → Int32} (hz : tpP ζ L) (h : rdW ζ σ L t w) {i u f g : Nat} (hi : i < 18) (hu : u < 8) (hf : f < 8) (hg : g < 1000) (hgk : gT f = .int (nI g)) : CpI l G mX0_readMark 5 shT [.ref (ad G 54), .ref (ad G (38 + u)), .ref (G.2.2.2.1 i), .int (nI f)] σ (bI ((mkF (ζ 53) L i u f g t w).1 = true)) (fun τ => rdW ζ τ L (mkF (ζ 53) L i u f g t w).2.1 (mkF (ζ 53) L i u f g t w).2.2) := by
  refine ct_intro (by decide) (Nat.le_of_ble_eq_true rfl) (fun X B R => ?_)
  show V X G shT σ [some (.ref (ad G 54)), some (.ref (ad G (38 + u))), some (.ref (G.2.2.2.1 i)), some (.int (nI f)), none] [] 0
  refine r_aload_n (pc := 0) B dX0_readMark_0 rfl ?_
  refine r_aload_n (pc := 1) B dX0_readMark_1 rfl ?_
  refine r_cVi1 (pc := 2) B KX0_39 (c_isWord l G hz h hi) rfl rfl (by decide) (Nat.le_of_ble_eq_true rfl) dX0_readMark_2 ?_
  refine r_if_ne (pc := 5) B 10 dX0_readMark_5 (by decide) (fun h5 => ?_) (fun h5 => ?_)
  · skip
    have hwd := bI_n.mp h5
    refine r_aload_n (pc := 10) B dX0_readMark_10 rfl ?_
    refine r_gsN (pc := 11) B (by decide +kernel) dX0_readMark_11 ?_
    refine r_iload_n (pc := 14) B dX0_readMark_14 rfl ?_
    refine r_tg (pc := 15) (v := nI g) B f (ix_nI hf (by decide)) hgk dX0_readMark_15 ?_
    refine r_cVpi1 (pc := 16) B KX0_103 (c_nextNumber l G hz h hg) rfl rfl (by decide) (Nat.le_of_ble_eq_true rfl) dX0_readMark_16 (fun ρ hr => ?_)
    refine r_istore_4 (pc := 19) B dX0_readMark_19 (by decide) rfl ?_
    refine r_iload (pc := 21) B dX0_readMark_21 rfl ?_
    refine r_if_ge (pc := 23) B 28 dX0_readMark_23 (by decide) (fun h23 => ?_) (fun h23 => ?_)
    · skip
      have hok := (nn_ge hg).mp h23
      have hm : mkF (ζ 53) L i u f g t w = (true, nx (ζ 53) L (nx (ζ 53) L t), upd w (53 + 8 * u + f) (nI (nx (ζ 53) L t).2.2.2)) := by rw [mkF, if_pos hwd, if_pos hok]
      rw [show nnR (nx (ζ 53) L t) g = nI (nx (ζ 53) L t).2.2.2 by rw [nnR, if_pos hok]]
      refine r_aload_n (pc := 28) B dX0_readMark_28 rfl ?_
      refine r_iload_n (pc := 29) B dX0_readMark_29 rfl ?_
      refine r_iload (pc := 30) B dX0_readMark_30 rfl ?_
      refine r_cVv2 (pc := 32) B KX0_106 (c_setMark l G _ (U38 hu) hf _) (shU (U38 hu)) rfl (by decide) (Nat.le_of_ble_eq_true rfl) dX0_readMark_32 ?_
      refine r_aload_n (pc := 35) B dX0_readMark_35 rfl ?_
      refine r_cVpv0 (pc := 36) B KX0_28 (c_rdT l G hz (hr.mark hu hf _)) rfl rfl (by decide) (Nat.le_of_ble_eq_true rfl) dX0_readMark_36 (fun ρ2 hr2 => ?_)
      refine r_iconst (pc := 39) (x := 1) B dX0_readMark_39 (by decide) ?_
      exact r_zret (pc := 40) B R (by first | decide | exact bI_01 _) dX0_readMark_40 ⟨by rw [hm]; rfl, by rw [hm]; exact hr2⟩
    · skip
      have hm : mkF (ζ 53) L i u f g t w = (false, nx (ζ 53) L t, w) := by rw [mkF, if_pos hwd, if_neg (fun z => h23 ((nn_ge hg).mpr z))]
      refine r_iconst (pc := 26) (x := 0) B dX0_readMark_26 (by decide) ?_
      exact r_zret (pc := 27) B R (by first | decide | exact bI_01 _) dX0_readMark_27 ⟨by rw [hm]; rfl, by rw [hm]; exact hr⟩
  · skip
    have hm : mkF (ζ 53) L i u f g t w = (true, t, w) := by rw [mkF, if_neg (bI_0.mp h5)]
    refine r_iconst (pc := 8) (x := 1) B dX0_readMark_8 (by decide) ?_
    exact r_zret (pc := 9) B R (by first | decide | exact bI_01 _) dX0_readMark_9 ⟨by rw [hm]; rfl, by rw [hm]; exact h⟩
set_option maxHeartbeats 4000000 in
set_option maxRecDepth 20000 in
theorem c_readUmbrella (l : Launch) (G : GG) {ζ σ : Sg} {L : Nat} {t : TS} {w : Nat → Int32} (hz : tpP ζ L) (h : rdW ζ σ L t w) {n a : Nat} (hn : w 0 = nI n) (hnb : n ≤ 8) : CpI l G mX0_readUmbrella 6 shT [.ref (ad G 54), .ref (ad G 31), .int (nI a)] σ (bI ((umF (ζ 53) L a t w).1 = true)) (fun τ => rdW ζ τ L (umF (ζ 53) L a t w).2.1 (umF (ζ 53) L a t w).2.2) := by
  have hs : σ 31 2 = nI n := by rw [← vw_0 31 σ, h.2.1 0 (by omega), hn]
  have hcl : (w 0).toNatClampNeg = n := by rw [hn]; exact nI_clamp (by omega)
  refine ct_intro (by decide) (Nat.le_of_ble_eq_true rfl) (fun X B R => ?_)
  show V X G shT σ [some (.ref (ad G 54)), some (.ref (ad G 31)), some (.int (nI a)), none] [] 0
  refine r_aload_n (pc := 0) B dX0_readUmbrella_0 rfl ?_
  refine r_cVi0 (pc := 1) B KX0_75 (c_isFull l G _ W31) rfl rfl (by decide) (Nat.le_of_ble_eq_true rfl) dX0_readUmbrella_1 ?_
  refine r_if_eq (pc := 4) B 9 dX0_readUmbrella_4 (by decide) (fun h4 => ?_) (fun h4 => ?_)
  · skip
    have hn8 : n < 8 := by
      have := bI_0.mp h4
      rw [hs] at this
      exact (nI_ltI (b := 8) (by omega) (by omega)).mp (Classical.not_not.mp this)
    have hU : umF (ζ 53) L a t w = umC (ζ 53) L n (nx (ζ 53) L t) (upd (putU w n (newU (nI a))) 0 (nI (n + 1))) := by rw [umF, hcl, if_neg (by omega)]
    refine r_aload_n (pc := 9) B dX0_readUmbrella_9 rfl ?_
    refine r_getr (pc := 10) B FX0_79 rfl rfl dX0_readUmbrella_10 ?_
    refine r_aload_n (pc := 13) B dX0_readUmbrella_13 rfl ?_
    refine r_iload_n (pc := 14) B dX0_readUmbrella_14 rfl ?_
    refine r_cVi1 (pc := 15) B KX0_83 (c_addUmbrella l G _ W31 hn8 hs _) rfl rfl (by decide) (Nat.le_of_ble_eq_true rfl) dX0_readUmbrella_15 ?_
    refine r_aald (pc := 18) B rfl rfl (ix_nI (N := 8) hn8 (by decide)) (el_31 hn8) dX0_readUmbrella_18 ?_
    refine r_astore_3 (pc := 19) B dX0_readUmbrella_19 (by decide) rfl ?_
    refine r_aload_n (pc := 20) B dX0_readUmbrella_20 rfl ?_
    refine r_cVpv0 (pc := 21) B KX0_28 (c_rdT l G hz (h.add hn8 (nI a))) rfl rfl (by decide) (Nat.le_of_ble_eq_true rfl) dX0_readUmbrella_21 (fun ρ hr => ?_)
    obtain ⟨w1, hw1⟩ : ∃ w1, w1 = upd (putU w n (newU (nI a))) 0 (nI (n + 1)) := ⟨_, rfl⟩
    rw [← hw1] at hr hU
    refine r_aload_n (pc := 24) B dX0_readUmbrella_24 rfl ?_
    refine r_aload_n (pc := 25) B dX0_readUmbrella_25 rfl ?_
    refine r_ldcS (pc := 26) B 7 rfl dX0_readUmbrella_26 ?_
    refine r_iconst (pc := 28) (x := 1) B dX0_readUmbrella_28 (by decide) ?_
    refine r_cVpi3 (pc := 29) B KX0_89 (c_readMark l G hz hr (i := 7) (u := n) (f := 1) (g := 16) (by omega) hn8 (by omega) (by omega) rfl) rfl rfl (by decide) (Nat.le_of_ble_eq_true rfl) dX0_readUmbrella_29 (fun ρ1 hr1 => ?_)
    obtain ⟨r1, e1⟩ : ∃ r1, r1 = mkF (ζ 53) L 7 n 1 16 (nx (ζ 53) L t) w1 := ⟨_, rfl⟩
    rw [← e1] at hr1
    rw [← e1]
    rw [umC, ← e1] at hU
    refine r_if_eq (pc := 32) B 72 dX0_readUmbrella_32 (by decide) (fun h32 => ?_) (fun h32 => ?_)
    · skip
      rw [bnR, if_neg (bI_0.mp h32)] at hU
      refine r_iconst (pc := 72) (x := 0) B dX0_readUmbrella_72 (by decide) ?_
      exact r_zret (pc := 73) B R (by first | decide | exact bI_01 _) dX0_readUmbrella_73 (by first | exact ⟨by rw [hU, ← bI_t (bI_n.mp h65)], by rw [hU]; exact hr4⟩ | exact ⟨by rw [hU, ← bI_f (bI_0.mp h65)], by rw [hU]; exact hr4⟩ | exact ⟨by rw [hU, ← bI_f (bI_0.mp h54)], by rw [hU]; exact hr3⟩ | exact ⟨by rw [hU, ← bI_f (bI_0.mp h43)], by rw [hU]; exact hr2⟩ | exact ⟨by rw [hU, ← bI_f (bI_0.mp h32)], by rw [hU]; exact hr1⟩)
    · skip
      rw [bnR, if_pos (bI_n.mp h32)] at hU
      refine r_aload_n (pc := 35) B dX0_readUmbrella_35 rfl ?_
      refine r_aload_n (pc := 36) B dX0_readUmbrella_36 rfl ?_
      refine r_ldcS (pc := 37) B 8 rfl dX0_readUmbrella_37 ?_
      refine r_iconst (pc := 39) (x := 4) B dX0_readUmbrella_39 (by decide) ?_
      refine r_cVpi3 (pc := 40) B KX0_89 (c_readMark l G hz hr1 (i := 8) (u := n) (f := 4) (g := 8) (by omega) hn8 (by omega) (by omega) rfl) rfl rfl (by decide) (Nat.le_of_ble_eq_true rfl) dX0_readUmbrella_40 (fun ρ2 hr2 => ?_)
      obtain ⟨r2, e2⟩ : ∃ r2, r2 = mkF (ζ 53) L 8 n 4 8 r1.2.1 r1.2.2 := ⟨_, rfl⟩
      rw [← e2] at hr2 hU
      rw [← e2]
      refine r_if_eq (pc := 43) B 72 dX0_readUmbrella_43 (by decide) (fun h43 => ?_) (fun h43 => ?_)
      · skip
        rw [bnR, if_neg (bI_0.mp h43)] at hU
        refine r_iconst (pc := 72) (x := 0) B dX0_readUmbrella_72 (by decide) ?_
        exact r_zret (pc := 73) B R (by first | decide | exact bI_01 _) dX0_readUmbrella_73 (by first | exact ⟨by rw [hU, ← bI_t (bI_n.mp h65)], by rw [hU]; exact hr4⟩ | exact ⟨by rw [hU, ← bI_f (bI_0.mp h65)], by rw [hU]; exact hr4⟩ | exact ⟨by rw [hU, ← bI_f (bI_0.mp h54)], by rw [hU]; exact hr3⟩ | exact ⟨by rw [hU, ← bI_f (bI_0.mp h43)], by rw [hU]; exact hr2⟩ | exact ⟨by rw [hU, ← bI_f (bI_0.mp h32)], by rw [hU]; exact hr1⟩)
      · skip
        rw [bnR, if_pos (bI_n.mp h43)] at hU
        refine r_aload_n (pc := 46) B dX0_readUmbrella_46 rfl ?_
        refine r_aload_n (pc := 47) B dX0_readUmbrella_47 rfl ?_
        refine r_ldcS (pc := 48) B 9 rfl dX0_readUmbrella_48 ?_
        refine r_iconst (pc := 50) (x := 2) B dX0_readUmbrella_50 (by decide) ?_
        refine r_cVpi3 (pc := 51) B KX0_89 (c_readMark l G hz hr2 (i := 9) (u := n) (f := 2) (g := 3) (by omega) hn8 (by omega) (by omega) rfl) rfl rfl (by decide) (Nat.le_of_ble_eq_true rfl) dX0_readUmbrella_51 (fun ρ3 hr3 => ?_)
        obtain ⟨r3, e3⟩ : ∃ r3, r3 = mkF (ζ 53) L 9 n 2 3 r2.2.1 r2.2.2 := ⟨_, rfl⟩
        rw [← e3] at hr3 hU
        rw [← e3]
        refine r_if_eq (pc := 54) B 72 dX0_readUmbrella_54 (by decide) (fun h54 => ?_) (fun h54 => ?_)
        · skip
          rw [bnR, if_neg (bI_0.mp h54)] at hU
          refine r_iconst (pc := 72) (x := 0) B dX0_readUmbrella_72 (by decide) ?_
          exact r_zret (pc := 73) B R (by first | decide | exact bI_01 _) dX0_readUmbrella_73 (by first | exact ⟨by rw [hU, ← bI_t (bI_n.mp h65)], by rw [hU]; exact hr4⟩ | exact ⟨by rw [hU, ← bI_f (bI_0.mp h65)], by rw [hU]; exact hr4⟩ | exact ⟨by rw [hU, ← bI_f (bI_0.mp h54)], by rw [hU]; exact hr3⟩ | exact ⟨by rw [hU, ← bI_f (bI_0.mp h43)], by rw [hU]; exact hr2⟩ | exact ⟨by rw [hU, ← bI_f (bI_0.mp h32)], by rw [hU]; exact hr1⟩)
        · skip
          rw [bnR, if_pos (bI_n.mp h54)] at hU
          refine r_aload_n (pc := 57) B dX0_readUmbrella_57 rfl ?_
          refine r_aload_n (pc := 58) B dX0_readUmbrella_58 rfl ?_
          refine r_ldcS (pc := 59) B 10 rfl dX0_readUmbrella_59 ?_
          refine r_iconst (pc := 61) (x := 3) B dX0_readUmbrella_61 (by decide) ?_
          refine r_cVpi3 (pc := 62) B KX0_89 (c_readMark l G hz hr3 (i := 10) (u := n) (f := 3) (g := 3) (by omega) hn8 (by omega) (by omega) rfl) rfl rfl (by decide) (Nat.le_of_ble_eq_true rfl) dX0_readUmbrella_62 (fun ρ4 hr4 => ?_)
          obtain ⟨r4, e4⟩ : ∃ r4, r4 = mkF (ζ 53) L 10 n 3 3 r3.2.1 r3.2.2 := ⟨_, rfl⟩
          rw [← e4] at hr4 hU
          rw [← e4]
          refine r_if_eq (pc := 65) B 72 dX0_readUmbrella_65 (by decide) (fun h65 => ?_) (fun h65 => ?_)
          · skip
            refine r_iconst (pc := 72) (x := 0) B dX0_readUmbrella_72 (by decide) ?_
            exact r_zret (pc := 73) B R (by first | decide | exact bI_01 _) dX0_readUmbrella_73 (by first | exact ⟨by rw [hU, ← bI_t (bI_n.mp h65)], by rw [hU]; exact hr4⟩ | exact ⟨by rw [hU, ← bI_f (bI_0.mp h65)], by rw [hU]; exact hr4⟩ | exact ⟨by rw [hU, ← bI_f (bI_0.mp h54)], by rw [hU]; exact hr3⟩ | exact ⟨by rw [hU, ← bI_f (bI_0.mp h43)], by rw [hU]; exact hr2⟩ | exact ⟨by rw [hU, ← bI_f (bI_0.mp h32)], by rw [hU]; exact hr1⟩)
          · skip
            refine r_iconst (pc := 68) (x := 1) B dX0_readUmbrella_68 (by decide) ?_
            refine r_goto (pc := 69) B 73 dX0_readUmbrella_69 (by decide) ?_
            exact r_zret (pc := 73) B R (by first | decide | exact bI_01 _) dX0_readUmbrella_73 (by first | exact ⟨by rw [hU, ← bI_t (bI_n.mp h65)], by rw [hU]; exact hr4⟩ | exact ⟨by rw [hU, ← bI_f (bI_0.mp h65)], by rw [hU]; exact hr4⟩ | exact ⟨by rw [hU, ← bI_f (bI_0.mp h54)], by rw [hU]; exact hr3⟩ | exact ⟨by rw [hU, ← bI_f (bI_0.mp h43)], by rw [hU]; exact hr2⟩ | exact ⟨by rw [hU, ← bI_f (bI_0.mp h32)], by rw [hU]; exact hr1⟩)
  · skip
    have hn8 : n = 8 := by
      have := bI_n.mp h4
      rw [hs] at this
      rcases Nat.lt_or_ge n 8 with q | q
      · exact absurd ((nI_ltI (b := 8) (by omega) (by omega)).mpr q) this
      · omega
    have hU : umF (ζ 53) L a t w = (false, t, w) := by rw [umF, hcl, if_pos hn8]
    refine r_iconst (pc := 7) (x := 0) B dX0_readUmbrella_7 (by decide) ?_
    exact r_zret (pc := 8) B R (by first | decide | exact bI_01 _) dX0_readUmbrella_8 ⟨by rw [hU]; rfl, by rw [hU]; exact h⟩
set_option maxHeartbeats 4000000 in
set_option maxRecDepth 20000 in
theorem c_readWind (l : Launch) (G : GG) {ζ σ : Sg} {L : Nat} {t : TS} {w : Nat → Int32} (hz : tpP ζ L) (h : rdW ζ σ L t w) {c : Nat} : CpI l G mX0_readWind 3 shT [.ref (ad G 54), .ref (ad G 32), .int (nI c)] σ (bI ((wnF (ζ 53) L c t w).1 = true)) (fun τ => rdW ζ τ L (wnF (ζ 53) L c t w).2.1 (wnF (ζ 53) L c t w).2.2) := by
  refine ct_intro (by decide) (Nat.le_of_ble_eq_true rfl) (fun X B R => ?_)
  show V X G shT σ [some (.ref (ad G 54)), some (.ref (ad G 32)), some (.int (nI c)), none, none] [] 0
  refine r_aload_n (pc := 0) B dX0_readWind_0 rfl ?_
  refine r_bipush (pc := 1) (x := 15) B dX0_readWind_1 (by decide) ?_
  refine r_cVpi1 (pc := 3) B KX0_103 (c_nextNumber l G hz h (g := 15) (by omega)) rfl rfl (by decide) (Nat.le_of_ble_eq_true rfl) dX0_readWind_3 (fun ρ hr => ?_)
  refine r_istore_3 (pc := 6) B dX0_readWind_6 (by decide) rfl ?_
  refine r_iload_n (pc := 7) B dX0_readWind_7 rfl ?_
  refine r_cNi1 (pc := 8) B KX0_112 (c_isStep l G _ _ _) (by decide) (Nat.le_of_ble_eq_true rfl) dX0_readWind_8 ?_
  refine r_if_ne (pc := 11) B 16 dX0_readWind_11 (by decide) (fun h11 => ?_) (fun h11 => ?_)
  · skip
    have hok : okN (nx (ζ 53) L t) 15 := by
      refine Classical.byContradiction (fun z => ?_)
      have := bI_n.mp h11
      rw [nnR, if_neg z] at this
      exact this.1 (by decide)
    rw [show nnR (nx (ζ 53) L t) 15 = nI (nx (ζ 53) L t).2.2.2 by rw [nnR, if_pos hok]]
    refine r_aload_n (pc := 16) B dX0_readWind_16 rfl ?_
    refine r_bipush (pc := 17) (x := 99) B dX0_readWind_17 (by decide) ?_
    refine r_cVpi1 (pc := 19) B KX0_103 (c_nextNumber l G hz hr (g := 99) (by omega)) rfl rfl (by decide) (Nat.le_of_ble_eq_true rfl) dX0_readWind_19 (fun ρ2 hr2 => ?_)
    refine r_istore_4 (pc := 22) B dX0_readWind_22 (by decide) rfl ?_
    refine r_iload (pc := 24) B dX0_readWind_24 rfl ?_
    refine r_if_ge (pc := 26) B 31 dX0_readWind_26 (by decide) (fun h26 => ?_) (fun h26 => ?_)
    · skip
      have hok2 := (nn_ge (g := 99) (by omega)).mp h26
      rw [show nnR (nx (ζ 53) L (nx (ζ 53) L t)) 99 = nI (nx (ζ 53) L (nx (ζ 53) L t)).2.2.2 by rw [nnR, if_pos hok2]]
      have hm : wnF (ζ 53) L c t w = (true, nx (ζ 53) L (nx (ζ 53) L (nx (ζ 53) L t)), upd (upd w (5 + (nx (ζ 53) L t).2.2.2) (nI c)) (21 + (nx (ζ 53) L t).2.2.2) (nI (nx (ζ 53) L (nx (ζ 53) L t)).2.2.2)) := by rw [wnF, if_pos hok, if_pos hok2]
      have h16 : (nx (ζ 53) L t).2.2.2 < 16 := by have := hok.2; omega
      refine r_aload_n (pc := 31) B dX0_readWind_31 rfl ?_
      refine r_getr (pc := 32) B FX0_116 rfl rfl dX0_readWind_32 ?_
      refine r_iload_n (pc := 35) B dX0_readWind_35 rfl ?_
      refine r_iload_n (pc := 36) B dX0_readWind_36 rfl ?_
      refine r_iast (pc := 37) B rfl (ix_nI h16 (by decide)) dX0_readWind_37 ?_
      refine r_aload_n (pc := 38) B dX0_readWind_38 rfl ?_
      refine r_getr (pc := 39) B FX0_121 rfl rfl dX0_readWind_39 ?_
      refine r_iload_n (pc := 42) B dX0_readWind_42 rfl ?_
      refine r_iload (pc := 43) B dX0_readWind_43 rfl ?_
      refine r_iast (pc := 45) B rfl (ix_nI h16 (by decide)) dX0_readWind_45 ?_
      refine r_aload_n (pc := 46) B dX0_readWind_46 rfl ?_
      refine r_cVpv0 (pc := 47) B KX0_28 (c_rdT l G hz ((hr2.st (m := 5 + (nx (ζ 53) L t).2.2.2) (by omega) (lc_f h16) (by omega) (nI c)).st (m := 21 + (nx (ζ 53) L t).2.2.2) (by omega) (lc_s h16) (by omega) (nI (nx (ζ 53) L (nx (ζ 53) L t)).2.2.2))) rfl rfl (by decide) (Nat.le_of_ble_eq_true rfl) dX0_readWind_47 (fun ρ3 hr3 => ?_)
      refine r_iconst (pc := 50) (x := 1) B dX0_readWind_50 (by decide) ?_
      exact r_zret (pc := 51) B R (by first | decide | exact bI_01 _) dX0_readWind_51 ⟨by rw [hm]; rfl, by rw [hm]; exact hr3⟩
    · skip
      have hm : wnF (ζ 53) L c t w = (false, nx (ζ 53) L (nx (ζ 53) L t), w) := by rw [wnF, if_pos hok, if_neg (fun z => h26 ((nn_ge (g := 99) (by omega)).mpr z))]
      refine r_iconst (pc := 29) (x := 0) B dX0_readWind_29 (by decide) ?_
      exact r_zret (pc := 30) B R (by first | decide | exact bI_01 _) dX0_readWind_30 ⟨by rw [hm]; rfl, by rw [hm]; exact hr2⟩
  · skip
    have hok : ¬ okN (nx (ζ 53) L t) 15 := fun z => bI_0.mp h11 (by rw [nnR, if_pos z]; exact nI_stepP (by have := z.2; omega))
    have hm : wnF (ζ 53) L c t w = (false, nx (ζ 53) L t, w) := by rw [wnF, if_neg hok]
    refine r_iconst (pc := 14) (x := 0) B dX0_readWind_14 (by decide) ?_
    exact r_zret (pc := 15) B R (by first | decide | exact bI_01 _) dX0_readWind_15 ⟨by rw [hm]; rfl, by rw [hm]; exact hr⟩
set_option maxHeartbeats 4000000 in
set_option maxRecDepth 20000 in
theorem c_readRoof (l : Launch) (G : GG) {ζ σ : Sg} {L : Nat} {t : TS} {w : Nat → Int32} (hz : tpP ζ L) (h : rdW ζ σ L t w) (v : Int32) : CpI l G mX0_readRoof 3 shT [.ref (ad G 54), .ref (ad G 32), .int v] σ (bI ((rfF (ζ 53) L v t w).1 = true)) (fun τ => rdW ζ τ L (rfF (ζ 53) L v t w).2.1 (rfF (ζ 53) L v t w).2.2) := by
  refine ct_intro (by decide) (Nat.le_of_ble_eq_true rfl) (fun X B R => ?_)
  show V X G shT σ [some (.ref (ad G 54)), some (.ref (ad G 32)), some (.int v), none] [] 0
  refine r_aload_n (pc := 0) B dX0_readRoof_0 rfl ?_
  refine r_bipush (pc := 1) (x := 15) B dX0_readRoof_1 (by decide) ?_
  refine r_cVpi1 (pc := 3) B KX0_103 (c_nextNumber l G hz h (g := 15) (by omega)) rfl rfl (by decide) (Nat.le_of_ble_eq_true rfl) dX0_readRoof_3 (fun ρ hr => ?_)
  refine r_istore_3 (pc := 6) B dX0_readRoof_6 (by decide) rfl ?_
  refine r_iload_n (pc := 7) B dX0_readRoof_7 rfl ?_
  refine r_cNi1 (pc := 8) B KX0_112 (c_isStep l G _ _ _) (by decide) (Nat.le_of_ble_eq_true rfl) dX0_readRoof_8 ?_
  refine r_if_ne (pc := 11) B 16 dX0_readRoof_11 (by decide) (fun h11 => ?_) (fun h11 => ?_)
  · skip
    have hok : okN (nx (ζ 53) L t) 15 := by
      refine Classical.byContradiction (fun z => ?_)
      have := bI_n.mp h11
      rw [nnR, if_neg z] at this
      exact this.1 (by decide)
    rw [show nnR (nx (ζ 53) L t) 15 = nI (nx (ζ 53) L t).2.2.2 by rw [nnR, if_pos hok]]
    have h16 : (nx (ζ 53) L t).2.2.2 < 16 := by have := hok.2; omega
    have hm : rfF (ζ 53) L v t w = (true, nx (ζ 53) L (nx (ζ 53) L t), upd w (37 + (nx (ζ 53) L t).2.2.2) v) := by rw [rfF, if_pos hok]
    refine r_aload_n (pc := 16) B dX0_readRoof_16 rfl ?_
    refine r_getr (pc := 17) B FX0_124 rfl rfl dX0_readRoof_17 ?_
    refine r_iload_n (pc := 20) B dX0_readRoof_20 rfl ?_
    refine r_iload_n (pc := 21) B dX0_readRoof_21 rfl ?_
    refine r_iast (pc := 22) B rfl (ix_nI h16 (by decide)) dX0_readRoof_22 ?_
    refine r_aload_n (pc := 23) B dX0_readRoof_23 rfl ?_
    refine r_cVpv0 (pc := 24) B KX0_28 (c_rdT l G hz (hr.st (m := 37 + (nx (ζ 53) L t).2.2.2) (by omega) (lc_r h16) (by omega) v)) rfl rfl (by decide) (Nat.le_of_ble_eq_true rfl) dX0_readRoof_24 (fun ρ3 hr3 => ?_)
    refine r_iconst (pc := 27) (x := 1) B dX0_readRoof_27 (by decide) ?_
    exact r_zret (pc := 28) B R (by first | decide | exact bI_01 _) dX0_readRoof_28 ⟨by rw [hm]; rfl, by rw [hm]; exact hr3⟩
  · skip
    have hok : ¬ okN (nx (ζ 53) L t) 15 := fun z => bI_0.mp h11 (by rw [nnR, if_pos z]; exact nI_stepP (by have := z.2; omega))
    have hm : rfF (ζ 53) L v t w = (false, nx (ζ 53) L t, w) := by rw [rfF, if_neg hok]
    refine r_iconst (pc := 14) (x := 0) B dX0_readRoof_14 (by decide) ?_
    exact r_zret (pc := 15) B R (by first | decide | exact bI_01 _) dX0_readRoof_15 ⟨by rw [hm]; rfl, by rw [hm]; exact hr⟩
set_option maxHeartbeats 4000000 in
set_option maxRecDepth 20000 in
theorem c_readWeatherR (l : Launch) (G : GG) {ζ σ : Sg} {L : Nat} {t : TS} {w : Nat → Int32} (hz : tpP ζ L) (h : rdW ζ σ L t w) : CpI l G mX0_readWeather 3 shT [.ref (ad G 54), .ref (ad G 32), .int 1] σ (bI ((weF (ζ 53) L 0 t w).1 = true)) (fun τ => rdW ζ τ L (weF (ζ 53) L 0 t w).2.1 (weF (ζ 53) L 0 t w).2.2) := by
  refine ct_intro (by decide) (Nat.le_of_ble_eq_true rfl) (fun X B R => ?_)
  show V X G shT σ [some (.ref (ad G 54)), some (.ref (ad G 32)), some (.int 1), none] [] 0
  refine r_aload_n (pc := 0) B dX0_readWeather_0 rfl ?_
  refine r_bipush (pc := 1) (x := 99) B dX0_readWeather_1 (by decide) ?_
  refine r_cVpi1 (pc := 3) B KX0_103 (c_nextNumber l G hz h (g := 99) (by omega)) rfl rfl (by decide) (Nat.le_of_ble_eq_true rfl) dX0_readWeather_3 (fun ρ hr => ?_)
  refine r_istore_3 (pc := 6) B dX0_readWeather_6 (by decide) rfl ?_
  refine r_iload_n (pc := 7) B dX0_readWeather_7 rfl ?_
  refine r_if_ge (pc := 8) B 13 dX0_readWeather_8 (by decide) (fun h8 => ?_) (fun h8 => ?_)
  · skip
    have hok := (nn_ge (g := 99) (by omega)).mp h8
    rw [show nnR (nx (ζ 53) L t) 99 = nI (nx (ζ 53) L t).2.2.2 by rw [nnR, if_pos hok]]
    have hm : weF (ζ 53) L 0 t w = (true, nx (ζ 53) L (nx (ζ 53) L t), upd w (3 + 0) (nI (nx (ζ 53) L t).2.2.2)) := by rw [weF, if_pos hok]
    refine r_iload_n (pc := 13) B dX0_readWeather_13 rfl ?_
    refine r_if_eq (pc := 14) B 25 dX0_readWeather_14 (by decide) (fun h14 => ?_) (fun h14 => ?_)
    · skip
      exact absurd h14 (by decide)
    · skip
      refine r_aload_n (pc := 17) B dX0_readWeather_17 rfl ?_
      refine r_iload_n (pc := 18) B dX0_readWeather_18 rfl ?_
      refine r_puti (pc := 19) B PX0_126 rfl rfl dX0_readWeather_19 ?_
      refine r_goto (pc := 22) B 30 dX0_readWeather_22 (by decide) ?_
      refine r_aload_n (pc := 30) B dX0_readWeather_30 rfl ?_
      refine r_cVpv0 (pc := 31) B KX0_28 (c_rdT l G hz (hr.st (m := 3 + 0) (c := 1) (i := 3) (by omega) rfl (by omega) (nI (nx (ζ 53) L t).2.2.2))) rfl rfl (by decide) (Nat.le_of_ble_eq_true rfl) dX0_readWeather_31 (fun ρ3 hr3 => ?_)
      refine r_iconst (pc := 34) (x := 1) B dX0_readWeather_34 (by decide) ?_
      exact r_zret (pc := 35) B R (by first | decide | exact bI_01 _) dX0_readWeather_35 ⟨by rw [hm]; rfl, by rw [hm]; exact hr3⟩
  · skip
    have hm : weF (ζ 53) L 0 t w = (false, nx (ζ 53) L t, w) := by rw [weF, if_neg (fun z => h8 ((nn_ge (g := 99) (by omega)).mpr z))]
    refine r_iconst (pc := 11) (x := 0) B dX0_readWeather_11 (by decide) ?_
    exact r_zret (pc := 12) B R (by first | decide | exact bI_01 _) dX0_readWeather_12 ⟨by rw [hm]; rfl, by rw [hm]; exact hr⟩
set_option maxHeartbeats 4000000 in
set_option maxRecDepth 20000 in
theorem c_readWeatherG (l : Launch) (G : GG) {ζ σ : Sg} {L : Nat} {t : TS} {w : Nat → Int32} (hz : tpP ζ L) (h : rdW ζ σ L t w) : CpI l G mX0_readWeather 3 shT [.ref (ad G 54), .ref (ad G 32), .int 0] σ (bI ((weF (ζ 53) L 1 t w).1 = true)) (fun τ => rdW ζ τ L (weF (ζ 53) L 1 t w).2.1 (weF (ζ 53) L 1 t w).2.2) := by
  refine ct_intro (by decide) (Nat.le_of_ble_eq_true rfl) (fun X B R => ?_)
  show V X G shT σ [some (.ref (ad G 54)), some (.ref (ad G 32)), some (.int 0), none] [] 0
  refine r_aload_n (pc := 0) B dX0_readWeather_0 rfl ?_
  refine r_bipush (pc := 1) (x := 99) B dX0_readWeather_1 (by decide) ?_
  refine r_cVpi1 (pc := 3) B KX0_103 (c_nextNumber l G hz h (g := 99) (by omega)) rfl rfl (by decide) (Nat.le_of_ble_eq_true rfl) dX0_readWeather_3 (fun ρ hr => ?_)
  refine r_istore_3 (pc := 6) B dX0_readWeather_6 (by decide) rfl ?_
  refine r_iload_n (pc := 7) B dX0_readWeather_7 rfl ?_
  refine r_if_ge (pc := 8) B 13 dX0_readWeather_8 (by decide) (fun h8 => ?_) (fun h8 => ?_)
  · skip
    have hok := (nn_ge (g := 99) (by omega)).mp h8
    rw [show nnR (nx (ζ 53) L t) 99 = nI (nx (ζ 53) L t).2.2.2 by rw [nnR, if_pos hok]]
    have hm : weF (ζ 53) L 1 t w = (true, nx (ζ 53) L (nx (ζ 53) L t), upd w (3 + 1) (nI (nx (ζ 53) L t).2.2.2)) := by rw [weF, if_pos hok]
    refine r_iload_n (pc := 13) B dX0_readWeather_13 rfl ?_
    refine r_if_eq (pc := 14) B 25 dX0_readWeather_14 (by decide) (fun h14 => ?_) (fun h14 => ?_)
    · skip
      refine r_aload_n (pc := 25) B dX0_readWeather_25 rfl ?_
      refine r_iload_n (pc := 26) B dX0_readWeather_26 rfl ?_
      refine r_puti (pc := 27) B PX0_128 rfl rfl dX0_readWeather_27 ?_
      refine r_aload_n (pc := 30) B dX0_readWeather_30 rfl ?_
      refine r_cVpv0 (pc := 31) B KX0_28 (c_rdT l G hz (hr.st (m := 3 + 1) (c := 1) (i := 4) (by omega) rfl (by omega) (nI (nx (ζ 53) L t).2.2.2))) rfl rfl (by decide) (Nat.le_of_ble_eq_true rfl) dX0_readWeather_31 (fun ρ3 hr3 => ?_)
      refine r_iconst (pc := 34) (x := 1) B dX0_readWeather_34 (by decide) ?_
      exact r_zret (pc := 35) B R (by first | decide | exact bI_01 _) dX0_readWeather_35 ⟨by rw [hm]; rfl, by rw [hm]; exact hr3⟩
    · skip
      exact absurd rfl h14
  · skip
    have hm : weF (ζ 53) L 1 t w = (false, nx (ζ 53) L t, w) := by rw [weF, if_neg (fun z => h8 ((nn_ge (g := 99) (by omega)).mpr z))]
    refine r_iconst (pc := 11) (x := 0) B dX0_readWeather_11 (by decide) ?_
    exact r_zret (pc := 12) B R (by first | decide | exact bI_01 _) dX0_readWeather_12 ⟨by rw [hm]; rfl, by rw [hm]; exact hr⟩
theorem kS_lt {a : Nat} (h : a < 7) : kS a < 18 := by unfold kS; split <;> omega
theorem it_k {by1 : Nat → Int32} {L : Nat} {t : TS} {w : Nat → Int32} {a : Nat} (h : fdN (fun a => wdP by1 L t (kS a)) (fun _ => inferInstance) 7 0 = some a) : itF by1 L t w = umF by1 L a t w := by unfold itF; rw [h]
theorem it_f {by1 : Nat → Int32} {L : Nat} {t : TS} {w : Nat → Int32} {c : Nat} (h0 : fdN (fun a => wdP by1 L t (kS a)) (fun _ => inferInstance) 7 0 = none) (h : fdN (fun a => wdP by1 L t (11 + a)) (fun _ => inferInstance) 3 0 = some c) : itF by1 L t w = wnF by1 L c t w := by unfold itF; rw [h0]; simp only []; rw [h]
theorem it_s {by1 : Nat → Int32} {L : Nat} {t : TS} {w : Nat → Int32} (h0 : fdN (fun a => wdP by1 L t (kS a)) (fun _ => inferInstance) 7 0 = none) (h : fdN (fun a => wdP by1 L t (11 + a)) (fun _ => inferInstance) 3 0 = none) : itF by1 L t w = itS by1 L t w := by unfold itF; rw [h0]; simp only []; rw [h]

set_option maxHeartbeats 4000000 in
set_option maxRecDepth 20000 in
theorem c_readItem (l : Launch) (G : GG) {ζ σ : Sg} {L : Nat} {t : TS} {w : Nat → Int32} (hz : tpP ζ L) (h : rdW ζ σ L t w) {n0 : Nat} (hn : w 0 = nI n0) (hnb : n0 ≤ 8) : CpI l G mX0_readItem 7 shT [.ref (ad G 54), .ref (ad G 31)] σ (bI ((itF (ζ 53) L t w).1 = true)) (fun τ => rdW ζ τ L (itF (ζ 53) L t w).2.1 (itF (ζ 53) L t w).2.2) := by
  refine ct_intro (by decide) (Nat.le_of_ble_eq_true rfl) (fun X B R => ?_)
  show V X G shT σ [some (.ref (ad G 54)), some (.ref (ad G 31)), none] [] 0
  have hA : ∀ (z : Option Value), fdN (fun a => wdP (ζ 53) L t (kS a)) (fun _ => inferInstance) 7 0 = none → fdN (fun a => wdP (ζ 53) L t (11 + a)) (fun _ => inferInstance) 3 0 = none → V X G shT σ [some (.ref (ad G 54)), some (.ref (ad G 31)), z] [] 66 := by
    intro z g0 g1
    have gi := it_s (w := w) g0 g1
    refine r_aload_n (pc := 66) B dX0_readItem_66 rfl ?_
    refine r_ldcS (pc := 67) B 14 rfl dX0_readItem_67 ?_
    refine r_cVi1 (pc := 69) B KX0_39 (c_isWord l G hz h (by omega)) rfl rfl (by decide) (Nat.le_of_ble_eq_true rfl) dX0_readItem_69 ?_
    refine r_if_eq (pc := 72) B 85 dX0_readItem_72 (by decide) (fun h72 => ?_) (fun h72 => ?_)
    · skip
      refine r_aload_n (pc := 85) B dX0_readItem_85 rfl ?_
      refine r_ldcS (pc := 86) B 15 rfl dX0_readItem_86 ?_
      refine r_cVi1 (pc := 88) B KX0_39 (c_isWord l G hz h (by omega)) rfl rfl (by decide) (Nat.le_of_ble_eq_true rfl) dX0_readItem_88 ?_
      refine r_if_eq (pc := 91) B 104 dX0_readItem_91 (by decide) (fun h91 => ?_) (fun h91 => ?_)
      · skip
        refine r_aload_n (pc := 104) B dX0_readItem_104 rfl ?_
        refine r_ldcS (pc := 105) B 16 rfl dX0_readItem_105 ?_
        refine r_cVi1 (pc := 107) B KX0_39 (c_isWord l G hz h (by omega)) rfl rfl (by decide) (Nat.le_of_ble_eq_true rfl) dX0_readItem_107 ?_
        refine r_if_eq (pc := 110) B 123 dX0_readItem_110 (by decide) (fun h110 => ?_) (fun h110 => ?_)
        · skip
          refine r_aload_n (pc := 123) B dX0_readItem_123 rfl ?_
          refine r_ldcS (pc := 124) B 17 rfl dX0_readItem_124 ?_
          refine r_cVi1 (pc := 126) B KX0_39 (c_isWord l G hz h (by omega)) rfl rfl (by decide) (Nat.le_of_ble_eq_true rfl) dX0_readItem_126 ?_
          refine r_if_eq (pc := 129) B 148 dX0_readItem_129 (by decide) (fun h129 => ?_) (fun h129 => ?_)
          · skip
            rw [itS, if_neg (bI_0.mp h72), if_neg (bI_0.mp h91), if_neg (bI_0.mp h110), if_neg (bI_0.mp h129)] at gi
            refine r_iconst (pc := 148) (x := 0) B dX0_readItem_148 (by decide) ?_
            exact r_zret (pc := 149) B R (by first | decide | exact bI_01 _) dX0_readItem_149 (by first | exact ⟨by rw [gi, ← bI_t (bI_n.mp h141)], by rw [gi]; exact hr⟩ | exact ⟨by rw [gi, ← bI_f (bI_0.mp h141)], by rw [gi]; exact hr⟩ | exact ⟨by rw [gi]; rfl, by rw [gi]; exact h⟩)
          · skip
            rw [itS, if_neg (bI_0.mp h72), if_neg (bI_0.mp h91), if_neg (bI_0.mp h110), if_pos (bI_n.mp h129)] at gi
            refine r_aload_n (pc := 132) B dX0_readItem_132 rfl ?_
            refine r_aload_n (pc := 133) B dX0_readItem_133 rfl ?_
            refine r_getr (pc := 134) B FX0_50 rfl rfl dX0_readItem_134 ?_
            refine r_iconst (pc := 137) (x := 0) B dX0_readItem_137 (by decide) ?_
            refine r_cVpi2 (pc := 138) B KX0_69 (c_readWeatherG l G hz h) rfl rfl (by decide) (Nat.le_of_ble_eq_true rfl) dX0_readItem_138 (fun ρ hr => ?_)
            refine r_if_eq (pc := 141) B 148 dX0_readItem_141 (by decide) (fun h141 => ?_) (fun h141 => ?_)
            · skip
              refine r_iconst (pc := 148) (x := 0) B dX0_readItem_148 (by decide) ?_
              exact r_zret (pc := 149) B R (by first | decide | exact bI_01 _) dX0_readItem_149 (by first | exact ⟨by rw [gi, ← bI_t (bI_n.mp h141)], by rw [gi]; exact hr⟩ | exact ⟨by rw [gi, ← bI_f (bI_0.mp h141)], by rw [gi]; exact hr⟩ | exact ⟨by rw [gi]; rfl, by rw [gi]; exact h⟩)
            · skip
              refine r_iconst (pc := 144) (x := 1) B dX0_readItem_144 (by decide) ?_
              refine r_goto (pc := 145) B 149 dX0_readItem_145 (by decide) ?_
              exact r_zret (pc := 149) B R (by first | decide | exact bI_01 _) dX0_readItem_149 (by first | exact ⟨by rw [gi, ← bI_t (bI_n.mp h141)], by rw [gi]; exact hr⟩ | exact ⟨by rw [gi, ← bI_f (bI_0.mp h141)], by rw [gi]; exact hr⟩ | exact ⟨by rw [gi]; rfl, by rw [gi]; exact h⟩)
        · skip
          rw [itS, if_neg (bI_0.mp h72), if_neg (bI_0.mp h91), if_pos (bI_n.mp h110)] at gi
          refine r_aload_n (pc := 113) B dX0_readItem_113 rfl ?_
          refine r_aload_n (pc := 114) B dX0_readItem_114 rfl ?_
          refine r_getr (pc := 115) B FX0_50 rfl rfl dX0_readItem_115 ?_
          refine r_iconst (pc := 118) (x := 1) B dX0_readItem_118 (by decide) ?_
          refine r_cVpi2 (pc := 119) B KX0_69 (c_readWeatherR l G hz h) rfl rfl (by decide) (Nat.le_of_ble_eq_true rfl) dX0_readItem_119 (fun ρ hr => ?_)
          exact r_zret (pc := 122) B R (bI_01 _) dX0_readItem_122 ⟨by rw [gi], by rw [gi]; exact hr⟩
      · skip
        rw [itS, if_neg (bI_0.mp h72), if_pos (bI_n.mp h91)] at gi
        refine r_aload_n (pc := 94) B dX0_readItem_94 rfl ?_
        refine r_aload_n (pc := 95) B dX0_readItem_95 rfl ?_
        refine r_getr (pc := 96) B FX0_50 rfl rfl dX0_readItem_96 ?_
        refine r_iconst (pc := 99) (x := 0) B dX0_readItem_99 (by decide) ?_
        refine r_cVpi2 (pc := 100) B KX0_62 (c_readRoof l G hz h _) rfl rfl (by decide) (Nat.le_of_ble_eq_true rfl) dX0_readItem_100 (fun ρ hr => ?_)
        exact r_zret (pc := 103) B R (bI_01 _) dX0_readItem_103 ⟨by rw [gi], by rw [gi]; exact hr⟩
    · skip
      rw [itS, if_pos (bI_n.mp h72)] at gi
      refine r_aload_n (pc := 75) B dX0_readItem_75 rfl ?_
      refine r_aload_n (pc := 76) B dX0_readItem_76 rfl ?_
      refine r_getr (pc := 77) B FX0_50 rfl rfl dX0_readItem_77 ?_
      refine r_iconst (pc := 80) (x := 1) B dX0_readItem_80 (by decide) ?_
      refine r_cVpi2 (pc := 81) B KX0_62 (c_readRoof l G hz h _) rfl rfl (by decide) (Nat.le_of_ble_eq_true rfl) dX0_readItem_81 (fun ρ hr => ?_)
      exact r_zret (pc := 84) B R (bI_01 _) dX0_readItem_84 ⟨by rw [gi], by rw [gi]; exact hr⟩
  have hB : ∀ (n a : Nat), a + n = 3 → fdN (fun a => wdP (ζ 53) L t (kS a)) (fun _ => inferInstance) 7 0 = none → fdN (fun a => wdP (ζ 53) L t (11 + a)) (fun _ => inferInstance) 3 0 = fdN (fun a => wdP (ζ 53) L t (11 + a)) (fun _ => inferInstance) n a → V X G shT σ [some (.ref (ad G 54)), some (.ref (ad G 31)), some (.int (nI a))] [] 34 := by
    intro n
    induction n with
    | zero =>
      intro a ha g0 g1
      have ea : a = 3 := by omega
      subst ea
      refine r_iload_n (pc := 34) B dX0_readItem_34 rfl ?_
      refine r_iconst (pc := 35) (x := 3) B dX0_readItem_35 (by decide) ?_
      refine r_icmp_ge (pc := 36) B 66 dX0_readItem_36 (by decide) (fun h36 => ?_) (fun h36 => ?_)
      · skip
        exact hA _ g0 g1
      · skip
        exact absurd h36 (by decide)
    | succ n ih =>
      intro a ha g0 g1
      refine r_iload_n (pc := 34) B dX0_readItem_34 rfl ?_
      refine r_iconst (pc := 35) (x := 3) B dX0_readItem_35 (by decide) ?_
      refine r_icmp_ge (pc := 36) B 66 dX0_readItem_36 (by decide) (fun h36 => ?_) (fun h36 => ?_)
      · skip
        exact absurd (nI_ge_of (n := 3) (i := a) (by omega) (by omega) h36) (by omega)
      · skip
        refine r_aload_n (pc := 39) B dX0_readItem_39 rfl ?_
        refine r_iload_n (pc := 40) B dX0_readItem_40 rfl ?_
        refine r_cSa1 (pc := 41) B KX0_47 (c_wordOfFrom l G _ _ (by omega)) (by decide) (Nat.le_of_ble_eq_true rfl) dX0_readItem_41 ?_
        refine r_cVi1 (pc := 44) B KX0_39 (c_isWord l G hz h (by omega)) rfl rfl (by decide) (Nat.le_of_ble_eq_true rfl) dX0_readItem_44 ?_
        refine r_if_eq (pc := 47) B 60 dX0_readItem_47 (by decide) (fun h47 => ?_) (fun h47 => ?_)
        · skip
          have g2 : fdN (fun a => wdP (ζ 53) L t (11 + a)) (fun _ => inferInstance) (n + 1) a = fdN (fun a => wdP (ζ 53) L t (11 + a)) (fun _ => inferInstance) n (a + 1) := by rw [fdN, if_neg (bI_0.mp h47)]
          rw [g2] at g1
          refine r_iinc_2 (pc := 60) (y := _ + 1) B dX0_readItem_60 rfl (by decide) rfl ?_
          rw [nI_1]
          refine r_goto (pc := 63) B 34 dX0_readItem_63 (by decide) ?_
          exact ih (a + 1) (by omega) g0 g1
        · skip
          have gk := g1.trans (by rw [fdN, if_pos (bI_n.mp h47)] : _ = some a)
          have gi := it_f (w := w) g0 gk
          refine r_aload_n (pc := 50) B dX0_readItem_50 rfl ?_
          refine r_aload_n (pc := 51) B dX0_readItem_51 rfl ?_
          refine r_getr (pc := 52) B FX0_50 rfl rfl dX0_readItem_52 ?_
          refine r_iload_n (pc := 55) B dX0_readItem_55 rfl ?_
          refine r_cVpi2 (pc := 56) B KX0_56 (c_readWind l G hz h) rfl rfl (by decide) (Nat.le_of_ble_eq_true rfl) dX0_readItem_56 (fun ρ hr => ?_)
          exact r_zret (pc := 59) B R (bI_01 _) dX0_readItem_59 ⟨by rw [gi], by rw [gi]; exact hr⟩
  have hC : ∀ (n a : Nat), a + n = 7 → fdN (fun a => wdP (ζ 53) L t (kS a)) (fun _ => inferInstance) 7 0 = fdN (fun a => wdP (ζ 53) L t (kS a)) (fun _ => inferInstance) n a → V X G shT σ [some (.ref (ad G 54)), some (.ref (ad G 31)), some (.int (nI a))] [] 2 := by
    intro n
    induction n with
    | zero =>
      intro a ha g0
      have ea : a = 7 := by omega
      subst ea
      refine r_iload_n (pc := 2) B dX0_readItem_2 rfl ?_
      refine r_bipush (pc := 3) (x := 7) B dX0_readItem_3 (by decide) ?_
      refine r_icmp_ge (pc := 5) B 32 dX0_readItem_5 (by decide) (fun h5 => ?_) (fun h5 => ?_)
      · skip
        refine r_iconst (pc := 32) (x := 0) B dX0_readItem_32 (by decide) ?_
        refine r_istore_2 (pc := 33) B dX0_readItem_33 (by decide) rfl ?_
        exact hB 3 0 (by omega) g0 rfl
      · skip
        exact absurd h5 (by decide)
    | succ n ih =>
      intro a ha g0
      refine r_iload_n (pc := 2) B dX0_readItem_2 rfl ?_
      refine r_bipush (pc := 3) (x := 7) B dX0_readItem_3 (by decide) ?_
      refine r_icmp_ge (pc := 5) B 32 dX0_readItem_5 (by decide) (fun h5 => ?_) (fun h5 => ?_)
      · skip
        exact absurd (nI_ge_of (n := 7) (i := a) (by omega) (by omega) h5) (by omega)
      · skip
        refine r_aload_n (pc := 8) B dX0_readItem_8 rfl ?_
        refine r_iload_n (pc := 9) B dX0_readItem_9 rfl ?_
        refine r_cSa1 (pc := 10) B KX0_35 (c_wordOfKind l G _ _ (by omega)) (by decide) (Nat.le_of_ble_eq_true rfl) dX0_readItem_10 ?_
        refine r_cVi1 (pc := 13) B KX0_39 (c_isWord l G hz h (kS_lt (by omega))) rfl rfl (by decide) (Nat.le_of_ble_eq_true rfl) dX0_readItem_13 ?_
        refine r_if_eq (pc := 16) B 26 dX0_readItem_16 (by decide) (fun h16 => ?_) (fun h16 => ?_)
        · skip
          have g2 : fdN (fun a => wdP (ζ 53) L t (kS a)) (fun _ => inferInstance) (n + 1) a = fdN (fun a => wdP (ζ 53) L t (kS a)) (fun _ => inferInstance) n (a + 1) := by rw [fdN, if_neg (bI_0.mp h16)]
          rw [g2] at g0
          refine r_iinc_2 (pc := 26) (y := _ + 1) B dX0_readItem_26 rfl (by decide) rfl ?_
          rw [nI_1]
          refine r_goto (pc := 29) B 2 dX0_readItem_29 (by decide) ?_
          exact ih (a + 1) (by omega) g0
        · skip
          have gk := g0.trans (by rw [fdN, if_pos (bI_n.mp h16)] : _ = some a)
          have gi := it_k (w := w) gk
          refine r_aload_n (pc := 19) B dX0_readItem_19 rfl ?_
          refine r_aload_n (pc := 20) B dX0_readItem_20 rfl ?_
          refine r_iload_n (pc := 21) B dX0_readItem_21 rfl ?_
          refine r_cVpi2 (pc := 22) B KX0_43 (c_readUmbrella l G hz h hn hnb) rfl rfl (by decide) (Nat.le_of_ble_eq_true rfl) dX0_readItem_22 (fun ρ hr => ?_)
          exact r_zret (pc := 25) B R (bI_01 _) dX0_readItem_25 ⟨by rw [gi], by rw [gi]; exact hr⟩
  refine r_iconst (pc := 0) (x := 0) B dX0_readItem_0 (by decide) ?_
  refine r_istore_2 (pc := 1) B dX0_readItem_1 (by decide) rfl ?_
  exact hC 7 0 (by omega) rfl

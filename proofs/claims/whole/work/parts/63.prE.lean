/-! the pair of text -/
set_option maxHeartbeats 4000000 in
set_option maxRecDepth 20000 in
theorem c_text2 (l : Launch) (G : GG) (σ : Sg) {N L : Nat} (hN8 : N ≤ 8) (hN : σ 1 2 = nI N) (hz : tpP σ L) : Ct l G mX7_text 9 shT [.ref (ad G 0)] σ (fun r τ => r = some (.int (txA σ L).1) ∧ (∀ j, j < 127 → vw 1 τ j = if (txA σ L).1 < 0 then vw 1 σ j else (txA σ L).2 j) ∧ τ 52 1 = 0 ∧ ∀ k, (k = 0 ∨ 16 ≤ k) → (k < 31 ∨ 46 ≤ k) → k ≠ 52 → k ≠ 54 → τ k = σ k) := by
  refine ct_intro (by decide) (Nat.le_of_ble_eq_true rfl) (fun X B R => ?_)
  show V X G shT σ [some (.ref (ad G 0)), none] [] 0
  refine r_aload_n (pc := 0) B dX7_text_0 rfl ?_
  refine r_getr (pc := 1) B FX7_19 rfl rfl dX7_text_1 ?_
  refine r_aload_n (pc := 4) B dX7_text_4 rfl ?_
  refine r_getr (pc := 5) B FX7_10 rfl rfl dX7_text_5 ?_
  refine r_cVpv1 (pc := 8) B KX7_209 (c_become l G _ W31 W1 (by decide)) rfl rfl (by decide) (Nat.le_of_ble_eq_true rfl) dX7_text_8 (fun ρ h1 => ?_)
  have e53 : ρ 53 = σ 53 := h1.2 53 (by omega)
  have hz1 : tpP ρ L := ⟨hz.1, by rw [h1.2 52 (by omega)]; exact hz.2⟩
  refine r_aload_n (pc := 11) B dX7_text_11 rfl ?_
  refine r_getr (pc := 12) B FX7_45 rfl rfl dX7_text_12 ?_
  refine r_aload_n (pc := 15) B dX7_text_15 rfl ?_
  refine r_getr (pc := 16) B FX7_19 rfl rfl dX7_text_16 ?_
  refine r_cVpi1 (pc := 19) B KX7_213 (c_readInto l G _ hz1 h1.1 (n0 := N) (by rw [vw_0]; exact hN) hN8) rfl rfl (by decide) (Nat.le_of_ble_eq_true rfl) dX7_text_19 (fun ρ2 h2 => ?_)
  rw [e53] at h2
  rw [e53]
  refine r_istore_1 (pc := 22) B dX7_text_22 (by decide) rfl ?_
  refine r_aload_n (pc := 23) B dX7_text_23 rfl ?_
  refine r_getr (pc := 24) B FX7_36 rfl rfl dX7_text_24 ?_
  refine r_iconst (pc := 27) (x := 0) B dX7_text_27 (by decide) ?_
  refine r_puti (pc := 28) B PX7_203 rfl rfl dX7_text_28 ?_
  obtain ⟨ρ3, h3⟩ : ∃ ρ3, ρ3 = st2 ρ2 52 1 0 := ⟨_, rfl⟩
  rw [← h3]
  have k3 : ∀ k, k ≠ 52 → ρ3 k = ρ2 k := fun k hk => by rw [h3]; exact st2_cl _ _ _ _ hk
  have o3 : ∀ k, (k < 31 ∨ 46 ≤ k) → k ≠ 52 → k ≠ 54 → ρ3 k = σ k := fun k a b c => by rw [k3 k b, h2.2 k a c, h1.2 k (by omega)]
  have v1 : ∀ j, j < 127 → vw 1 ρ3 j = vw 1 σ j := fun j hj => by
    have hc : (lcO j).1 < 15 := by rcases lc_cell j with q | q <;> (try exact q); have e := lc_p (k := j - 117) (by omega); rw [show 117 + (j - 117) = j by omega] at e; rw [e]; omega
    unfold vw; rw [o3 _ (by omega) (by omega) (by omega)]
  have v31 : ∀ j, j < 127 → vw 31 ρ3 j = (txA σ L).2 j := fun j hj => by
    refine Eq.trans ?_ (h2.1 j hj)
    have hc : (lcO j).1 < 15 := by rcases lc_cell j with q | q <;> (try exact q); have e := lc_p (k := j - 117) (by omega); rw [show 117 + (j - 117) = j by omega] at e; rw [e]; omega
    unfold vw; rw [k3 _ (by omega)]
  have t3 : ρ3 52 1 = 0 := by rw [h3, st2_at]
  refine r_iload_n (pc := 31) B dX7_text_31 rfl ?_
  refine r_if_lt (pc := 32) B 46 dX7_text_32 (by decide) (fun h32 => ?_) (fun h32 => ?_)
  · skip
    have ha : (txA σ L).1 < 0 := h32
    refine r_iload_n (pc := 46) B dX7_text_46 rfl ?_
    exact r_iret (pc := 47) B R dX7_text_47 (by first | exact ⟨rfl, fun j hj => by rw [if_pos ha]; exact v1 j hj, t3, fun k _ a b c => o3 k a b c⟩ | exact ⟨rfl, fun j hj => by rw [if_neg ha, h4.1 j hj]; exact v31 j hj, by rw [h4.2 52 (by omega)]; exact t3, fun k q a b c => by rw [h4.2 k (by omega)]; exact o3 k a b c⟩)
  · skip
    have ha : ¬ (txA σ L).1 < 0 := h32
    refine r_aload_n (pc := 35) B dX7_text_35 rfl ?_
    refine r_getr (pc := 36) B FX7_10 rfl rfl dX7_text_36 ?_
    refine r_aload_n (pc := 39) B dX7_text_39 rfl ?_
    refine r_getr (pc := 40) B FX7_19 rfl rfl dX7_text_40 ?_
    refine r_cVpv1 (pc := 43) B KX7_209 (c_become l G _ W1 W31 (by decide)) rfl rfl (by decide) (Nat.le_of_ble_eq_true rfl) dX7_text_43 (fun ρ4 h4 => ?_)
    refine r_iload_n (pc := 46) B dX7_text_46 rfl ?_
    exact r_iret (pc := 47) B R dX7_text_47 (by first | exact ⟨rfl, fun j hj => by rw [if_pos ha]; exact v1 j hj, t3, fun k _ a b c => o3 k a b c⟩ | exact ⟨rfl, fun j hj => by rw [if_neg ha, h4.1 j hj]; exact v31 j hj, by rw [h4.2 52 (by omega)]; exact t3, fun k q a b c => by rw [h4.2 k (by omega)]; exact o3 k a b c⟩)
theorem GR.v {i : Nat} {w x : Nat → Int32} (h : GR i w) (h0 : x 0 = w 0) (h1 : x 1 = w 1) (hs : ∀ s, s < 10 → x (117 + s) = w (117 + s)) (hW : WR w → WR x) : GR i x := by
  obtain ⟨N, t, a, b, c, d, e, f⟩ := h
  exact ⟨N, t, a, h0.trans b, fun s q => by rw [hs s q]; exact c s q, hW d, e, h1.trans f⟩
theorem GR.u {i : Nat} {w : Nat → Int32} (h : GR i w) {m : Nat} {v : Int32} (h1 : 2 ≤ m) (h2 : m < 117) (hW : WR w → WR (upd w m v)) : GR i (upd w m v) := h.v (upd_ne (by omega)) (upd_ne (by omega)) (fun s hs => upd_ne (by omega)) hW
theorem GR.um2 {i N : Nat} {w : Nat → Int32} {k : Int32} (h : GR i w) (hN : w 0 = nI N) (hN8 : N < 8) (hk : withinP k 6) : GR i (cmR w N k) := by
  obtain ⟨M, t, a, b, c, d, e, f⟩ := h
  obtain rfl : M = N := nI_u b hN (by omega) (by omega)
  refine ⟨M + 1, t, by omega, ?_, fun s hs => ?_, ?_, e, ?_⟩
  · unfold cmR; rw [upd, if_pos rfl]
  · unfold cmR
    rw [upd_ne (by omega), putU_ne (by omega)]
    rcases c s hs with q | ⟨u, hu, q⟩
    · exact Or.inl q
    · exact Or.inr ⟨u, by omega, q⟩
  · exact WR_t (WR_p d hN8 (newU_rg hk)) (by omega) _
  · unfold cmR; rw [upd_ne (by omega), putU_ne (by omega)]; exact f
theorem gr_mk {i n L u f g : Nat} {by1 : Nat → Int32} {t : TS} {w : Nat → Int32} (h : GR i w) (hu : u < 8) (hf : f < 8) (hg : gK f = nI g) (hg2 : g < 2 ^ 31) : GR i (mkF by1 L n u f g t w).2.2 := by
  unfold mkF
  split
  · split
    · rename_i q
      exact h.u (by omega) (by omega) (fun hW => WR_u hW hu hf (by rw [hg]; exact nI_wi hg2 q.2))
    · exact h
  · exact h
theorem gr_bn {i : Nat} {r : RES} {k : TS → (Nat → Int32) → RES} (h : GR i r.2.2) (hk : ∀ t w, GR i w → GR i (k t w).2.2) : GR i (bnR r k).2.2 := by
  unfold bnR
  split
  · exact hk _ _ h
  · exact h
theorem gr_umC {i L n : Nat} {by1 : Nat → Int32} {t : TS} {w : Nat → Int32} (h : GR i w) (hn : n < 8) : GR i (umC by1 L n t w).2.2 := by
  unfold umC
  exact gr_bn (gr_mk h hn (by omega) rfl (by omega)) (fun t w h => gr_bn (gr_mk h hn (by omega) rfl (by omega)) (fun t w h => gr_bn (gr_mk h hn (by omega) rfl (by omega)) (fun t w h => gr_mk h hn (by omega) rfl (by omega))))
theorem gr_umF {i L a : Nat} {by1 : Nat → Int32} {t : TS} {w : Nat → Int32} (h : GR i w) (ha : a < 7) : GR i (umF by1 L a t w).2.2 := by
  obtain ⟨N, _, hN8, hN, -⟩ := id h
  unfold umF
  split
  · exact h
  · rename_i q
    have e : (w 0).toNatClampNeg = N := by rw [hN]; exact nI_clamp (by omega)
    rw [e] at q ⊢
    exact gr_umC (h.um2 hN (by omega) (nI_wi (g := 6) (by omega) (by omega))) (by omega)
theorem gr_wn {i L c : Nat} {by1 : Nat → Int32} {t : TS} {w : Nat → Int32} (h : GR i w) (hc : c < 3) : GR i (wnF by1 L c t w).2.2 := by
  unfold wnF
  split
  · rename_i q
    have q2 := q.2
    split
    · rename_i p
      exact (h.u (by omega) (by omega) (fun hW => WR_f hW (by omega) (nI_wi (g := 2) (by omega) (by omega)))).u (by omega) (by omega) (fun hW => WR_s hW (by omega) (nI_wi (g := 99) (by omega) p.2))
    · exact h
  · exact h
theorem gr_rf {i L : Nat} {by1 : Nat → Int32} {v : Int32} {t : TS} {w : Nat → Int32} (h : GR i w) (hv : withinP v 1) : GR i (rfF by1 L v t w).2.2 := by
  unfold rfF
  split
  · rename_i q
    have q2 := q.2
    exact h.u (by omega) (by omega) (fun hW => WR_r hW (by omega) hv)
  · exact h
theorem gr_we {i L k : Nat} {by1 : Nat → Int32} {t : TS} {w : Nat → Int32} (h : GR i w) (hk : k < 2) : GR i (weF by1 L k t w).2.2 := by
  unfold weF
  split
  · rename_i q
    refine h.u (by omega) (by omega) (fun hW => ?_)
    rcases (show k = 0 ∨ k = 1 by omega) with rfl | rfl
    · exact WR_3 hW (nI_wi (g := 99) (by omega) q.2)
    · exact WR_g hW (nI_wi (g := 99) (by omega) q.2)
  · exact h
theorem gr_it {i L : Nat} {by1 : Nat → Int32} {t : TS} {w : Nat → Int32} (h : GR i w) : GR i (itF by1 L t w).2.2 := by
  rcases it_cs by1 L t w with ⟨a, ha, -, e⟩ | ⟨-, e⟩
  · rw [e]; exact gr_umF h ha
  · rw [e]
    unfold stR itS
    split
    · exact gr_wn h (by omega)
    · split
      · exact gr_wn h (by omega)
      · split
        · exact gr_wn h (by omega)
        · split
          · exact gr_rf h (by decide)
          · split
            · exact gr_rf h (by decide)
            · split
              · exact gr_we h (by omega)
              · split
                · exact gr_we h (by omega)
                · exact h
theorem gr_tx {i L : Nat} {by1 : Nat → Int32} : ∀ (n k : Nat) (t : TS) (w : Nat → Int32), GR i w → GR i (txN by1 L n k t w).2
  | 0, _, _, _, h => h
  | n + 1, k, t, w, h => by
    rw [txN]
    have q := gr_it (by1 := by1) (L := L) (t := t) h
    split
    · split
      · exact q
      · split
        · exact gr_tx n (k + 1) _ _ q
        · exact q
    · exact q
theorem p_text (l : Launch) (G : GG) {i : Nat} {σ : Sg} (I : Inv i σ) (hi : i ≤ 512) : Pr l G i σ mX7_text 9 mX8_text 4 [] := by
  obtain ⟨N, t, hN8, hN, hS, hW, ht, ht1⟩ := I.1.1.2
  have e0 := I.2.1
  obtain ⟨L, hL8, hL, hL7⟩ := I.1.2.2.1.1
  refine (c_text2 l G σ hN8 hN ⟨hL8, hL⟩).mono (fun r τ hc => ?_)
  obtain ⟨rfl, hv, h52, hk⟩ := hc
  have es : ∀ k, 65 ≤ k → τ k = σ k := fun k q => hk k (by omega) (by omega) (by omega) (by omega)
  have e66 : τ 66 = vw 1 σ := (es 66 (by omega)).trans e0
  have e71 : τ 71 = σ 53 := (es 71 (by omega)).trans I.2.2.2.1
  have et : txB τ L = txA σ L := by unfold txB txA; rw [e71, e66]
  refine ⟨_, rfl, (e_text l G τ hL8 ((congrFun (es 65 (by omega)) 7).trans hL7) (fun p hp => by rw [e71]; exact (I.1.2.2.1.2 p (by omega)).2) hN8 (by rw [e66]; exact hN)).mono (fun r' υ he => ?_)⟩
  obtain ⟨rfl, hr, h7, h65, ho⟩ := he
  rw [et] at hr ⊢
  have hk2 : ∀ k, (k = 0 ∨ 16 ≤ k) → (k < 31 ∨ 46 ≤ k) → k ≠ 52 → k ≠ 54 → k ≠ 65 → k ≠ 66 → k ≠ 68 → υ k = σ k := fun k a b c d e f g => by rw [ho k e f g, hk k a b c d]
  have ev : vw 1 υ = vw 1 τ := vw_sm (fun k a b => ho k (by omega) (by omega) (by omega))
  refine ⟨rfl, ⟨fun j hj => ?_, ?_⟩, Kp.kp I.1 (by rw [h65 4 (by omega) (by omega), es 65 (by omega)]) (fun k q => hk2 k (by omega) (by omega) (by omega) (by omega) (by omega) (by omega) (by omega)), ⟨⟨0, by omega, ?_, h7⟩, fun p hp => ?_⟩, Shs.kp I.1 (fun k q => hk2 k (by omega) (by omega) (by omega) (by omega) (by omega) (by omega) (by omega)), Fds.kp I.1 (fun k q => hk2 k (by omega) (by omega) (by omega) (by omega) (by omega) (by omega) (by omega))⟩
  · rw [ev, hv j hj, hr j hj, e66]
  · rw [ev]
    by_cases z : (txA σ L).1 < 0
    · exact I.1.1.2.up.cg (fun j hj => by rw [hv j hj, if_pos z])
    · exact (show GR i (txA σ L).2 from gr_tx 120 1 _ _ I.1.1.2).up.cg (fun j hj => by rw [hv j hj, if_neg z])
  · rw [ho 52 (by omega) (by omega) (by omega)]; exact h52
  · rw [hk2 71 (by omega) (by omega) (by omega) (by omega) (by omega) (by omega) (by omega), hk2 53 (by omega) (by omega) (by omega) (by omega) (by omega) (by omega) (by omega)]
    exact I.1.2.2.1.2 p hp

/-! constructors -/
theorem shAt {T0 loc : List Sh} {S m : Nat} {x : Sh} (hS : T0.length = S) (h : loc[m]? = some x) : (T0 ++ loc)[S + m]? = some x := by rw [List.getElem?_append_right (by omega), hS, Nat.add_sub_cancel_left]; exact h
theorem vp_vl {G : GG} {f : Nat → Int32} {fs : List (Option (Option Nat))} {j : Nat} {x : Option (Option Nat)} (h : fs[j]? = some x) : vp_V (vl G f fs) j = fv G f j x := by
  unfold vp_V
  rw [List.getD_eq_getElem?_getD, vl_at h]
  rfl
theorem nn4 : ∀ i : Nat, (([none, none, none, none] : List (Option Nat))[i]?).getD none = none
  | 0 => rfl
  | 1 => rfl
  | 2 => rfl
  | 3 => rfl
  | _ + 4 => rfl
theorem nn8 : ∀ i : Nat, (([none, none, none, none, none, none, none, none] : List (Option Nat))[i]?).getD none = none
  | 0 => rfl
  | 1 => rfl
  | 2 => rfl
  | 3 => rfl
  | 4 => rfl
  | 5 => rfl
  | 6 => rfl
  | 7 => rfl
  | _ + 8 => rfl
theorem df0 (G : GG) : ∀ j, j < 5 → defaultValue (tyX0 j) = vp_V (vl G (fun _ => 0) [nl, nu, nu, nu, nu]) j
  | 0, _ => rfl
  | 1, _ => rfl
  | 2, _ => rfl
  | 3, _ => rfl
  | 4, _ => rfl
  | n + 5, h => absurd h (by omega)
theorem df1 (G : GG) : ∀ j, j < 3 → defaultValue (tyX1 j) = vp_V (vl G (fun _ => 0) [nl, nu, nu]) j
  | 0, _ => rfl
  | 1, _ => rfl
  | 2, _ => rfl
  | n + 3, h => absurd h (by omega)
theorem df2 (G : GG) : ∀ j, j < 6 → defaultValue (tyX2 j) = vp_V (vl G (fun _ => 0) [nl, nl, nl, nu, nu, nu]) j
  | 0, _ => rfl
  | 1, _ => rfl
  | 2, _ => rfl
  | 3, _ => rfl
  | 4, _ => rfl
  | 5, _ => rfl
  | n + 6, h => absurd h (by omega)
theorem df3 (G : GG) : ∀ j, j < 2 → defaultValue (tyX3 j) = vp_V (vl G (fun _ => 0) [nl, nu]) j
  | 0, _ => rfl
  | 1, _ => rfl
  | n + 2, h => absurd h (by omega)
theorem df4 (G : GG) : ∀ j, j < 8 → defaultValue (tyX4 j) = vp_V (vl G (fun _ => 0) [nu, nu, nu, nu, nu, nu, nu, nu]) j
  | 0, _ => rfl
  | 1, _ => rfl
  | 2, _ => rfl
  | 3, _ => rfl
  | 4, _ => rfl
  | 5, _ => rfl
  | 6, _ => rfl
  | 7, _ => rfl
  | n + 8, h => absurd h (by omega)
theorem df5 (G : GG) : ∀ j, j < 2 → defaultValue (tyX5 j) = vp_V (vl G (fun _ => 0) [nl, nl]) j
  | 0, _ => rfl
  | 1, _ => rfl
  | n + 2, h => absurd h (by omega)
theorem df6 (G : GG) : ∀ j, j < 5 → defaultValue (tyX6 j) = vp_V (vl G (fun _ => 0) [nl, nl, nu, nl, nu]) j
  | 0, _ => rfl
  | 1, _ => rfl
  | 2, _ => rfl
  | 3, _ => rfl
  | 4, _ => rfl
  | n + 5, h => absurd h (by omega)
theorem df7 (G : GG) : ∀ j, j < 9 → defaultValue (tyX7 j) = vp_V (vl G (fun _ => 0) [nl, nl, nl, nu, nl, nl, nl, nl, nl]) j
  | 0, _ => rfl
  | 1, _ => rfl
  | 2, _ => rfl
  | 3, _ => rfl
  | 4, _ => rfl
  | 5, _ => rfl
  | 6, _ => rfl
  | 7, _ => rfl
  | 8, _ => rfl
  | n + 9, h => absurd h (by omega)
theorem df8 (G : GG) : ∀ j, j < 21 → defaultValue (tyX8 j) = vp_V (vl G (fun _ => 0) [nl, nl, nl, nl, nu, nl, nl, nu, nl, nl, nl, nu, nu, nu, nu, nu, nu, nu, nu, nu, nu]) j
  | 0, _ => by rw [vp_vl (x := nl) rfl]; rfl
  | 1, _ => by rw [vp_vl (x := nl) rfl]; rfl
  | 2, _ => by rw [vp_vl (x := nl) rfl]; rfl
  | 3, _ => by rw [vp_vl (x := nl) rfl]; rfl
  | 4, _ => by rw [vp_vl (x := nu) rfl]; rfl
  | 5, _ => by rw [vp_vl (x := nl) rfl]; rfl
  | 6, _ => by rw [vp_vl (x := nl) rfl]; rfl
  | 7, _ => by rw [vp_vl (x := nu) rfl]; rfl
  | 8, _ => by rw [vp_vl (x := nl) rfl]; rfl
  | 9, _ => by rw [vp_vl (x := nl) rfl]; rfl
  | 10, _ => by rw [vp_vl (x := nl) rfl]; rfl
  | 11, _ => by rw [vp_vl (x := nu) rfl]; rfl
  | 12, _ => by rw [vp_vl (x := nu) rfl]; rfl
  | 13, _ => by rw [vp_vl (x := nu) rfl]; rfl
  | 14, _ => by rw [vp_vl (x := nu) rfl]; rfl
  | 15, _ => by rw [vp_vl (x := nu) rfl]; rfl
  | 16, _ => by rw [vp_vl (x := nu) rfl]; rfl
  | 17, _ => by rw [vp_vl (x := nu) rfl]; rfl
  | 18, _ => by rw [vp_vl (x := nu) rfl]; rfl
  | 19, _ => by rw [vp_vl (x := nu) rfl]; rfl
  | 20, _ => by rw [vp_vl (x := nu) rfl]; rfl
  | n + 21, h => absurd h (by omega)
theorem IX7_10 : FI RX7 10 7 0 := ⟨RX7, TX7, 9, tyX7, .object "InsideOut$World", ⟨rfl, by decide, q216, inG7, tyX7_ok, nmX7⟩, rfl, rfl, by decide +kernel, fun a => ⟨rfl, rfl⟩⟩
theorem IX7_16 : FI RX7 16 7 1 := ⟨RX7, TX7, 9, tyX7, .object "InsideOut$World", ⟨rfl, by decide, q217, inG7, tyX7_ok, nmX7⟩, rfl, rfl, by decide +kernel, fun a => ⟨rfl, rfl⟩⟩
theorem IX7_19 : FI RX7 19 7 2 := ⟨RX7, TX7, 9, tyX7, .object "InsideOut$World", ⟨rfl, by decide, q218, inG7, tyX7_ok, nmX7⟩, rfl, rfl, by decide +kernel, fun a => ⟨rfl, rfl⟩⟩
theorem IX7_29 : FI RX7 29 7 4 := ⟨RX7, TX7, 9, tyX7, .object "InsideOut$Walk", ⟨rfl, by decide, q220, inG7, tyX7_ok, nmX7⟩, rfl, rfl, by decide +kernel, fun a => ⟨rfl, rfl⟩⟩
theorem IX7_36 : FI RX7 36 7 5 := ⟨RX7, TX7, 9, tyX7, .object "InsideOut$Tape", ⟨rfl, by decide, q221, inG7, tyX7_ok, nmX7⟩, rfl, rfl, by decide +kernel, fun a => ⟨rfl, rfl⟩⟩
theorem IX7_45 : FI RX7 45 7 6 := ⟨RX7, TX7, 9, tyX7, .object "InsideOut$Reader", ⟨rfl, by decide, q222, inG7, tyX7_ok, nmX7⟩, rfl, rfl, by decide +kernel, fun a => ⟨rfl, rfl⟩⟩
theorem IX7_51 : FI RX7 51 7 7 := ⟨RX7, TX7, 9, tyX7, .array (.object "InsideOut$Sheet"), ⟨rfl, by decide, q223, inG7, tyX7_ok, nmX7⟩, rfl, rfl, by decide +kernel, fun a => ⟨rfl, rfl⟩⟩
theorem IX7_55 : FI RX7 55 7 8 := ⟨RX7, TX7, 9, tyX7, .array .int, ⟨rfl, by decide, q224, inG7, tyX7_ok, nmX7⟩, rfl, rfl, by decide +kernel, fun a => ⟨rfl, rfl⟩⟩
theorem IX6_12 : FI RX6 12 6 0 := ⟨RX6, TX6, 5, tyX6, .object "InsideOut$Street", ⟨rfl, by decide, q115, inG6, tyX6_ok, nmX6⟩, rfl, rfl, by decide +kernel, fun a => ⟨rfl, rfl⟩⟩
theorem IX6_20 : FI RX6 20 6 1 := ⟨RX6, TX6, 5, tyX6, .array (.object "InsideOut$Umbrella"), ⟨rfl, by decide, q118, inG6, tyX6_ok, nmX6⟩, rfl, rfl, by decide +kernel, fun a => ⟨rfl, rfl⟩⟩
theorem IX6_28 : FI RX6 28 6 3 := ⟨RX6, TX6, 5, tyX6, .array .int, ⟨rfl, by decide, q123, inG6, tyX6_ok, nmX6⟩, rfl, rfl, by decide +kernel, fun a => ⟨rfl, rfl⟩⟩
theorem IX2_9 : FI RX2 9 2 0 := ⟨RX2, TX2, 6, tyX2, .array .int, ⟨rfl, by decide, q41, inG2, tyX2_ok, nmX2⟩, rfl, rfl, by decide +kernel, fun a => ⟨rfl, rfl⟩⟩
theorem IX2_15 : FI RX2 15 2 1 := ⟨RX2, TX2, 6, tyX2, .array .int, ⟨rfl, by decide, q45, inG2, tyX2_ok, nmX2⟩, rfl, rfl, by decide +kernel, fun a => ⟨rfl, rfl⟩⟩
theorem IX2_18 : FI RX2 18 2 2 := ⟨RX2, TX2, 6, tyX2, .array .int, ⟨rfl, by decide, q48, inG2, tyX2_ok, nmX2⟩, rfl, rfl, by decide +kernel, fun a => ⟨rfl, rfl⟩⟩
theorem IX5_12 : FI RX5 12 5 0 := ⟨RX5, TX5, 2, tyX5, .object "InsideOut$Street", ⟨rfl, by decide, q148, inG5, tyX5_ok, nmX5⟩, rfl, rfl, by decide +kernel, fun a => ⟨rfl, rfl⟩⟩
theorem IX5_21 : FI RX5 21 5 1 := ⟨RX5, TX5, 2, tyX5, .object "InsideOut$Umbrella", ⟨rfl, by decide, q150, inG5, tyX5_ok, nmX5⟩, rfl, rfl, by decide +kernel, fun a => ⟨rfl, rfl⟩⟩
theorem IX3_9 : FI RX3 9 3 0 := ⟨RX3, TX3, 2, tyX3, .array .int, ⟨rfl, by decide, q163, inG3, tyX3_ok, nmX3⟩, rfl, rfl, by decide +kernel, fun a => ⟨rfl, rfl⟩⟩
theorem IX0_24 : FI RX0 24 0 0 := ⟨RX0, TX0, 5, tyX0, .object "InsideOut$Tape", ⟨rfl, by decide, q178, inG0, tyX0_ok, nmX0⟩, rfl, rfl, by decide +kernel, fun a => ⟨rfl, rfl⟩⟩
theorem IX1_9 : FI RX1 9 1 0 := ⟨RX1, TX1, 3, tyX1, .array .int, ⟨rfl, by decide, q201, inG1, tyX1_ok, nmX1⟩, rfl, rfl, by decide +kernel, fun a => ⟨rfl, rfl⟩⟩
theorem IX8_7 : FI RX8 7 8 0 := ⟨RX8, TX8, 21, tyX8, .array .int, ⟨rfl, by decide, q760, inG8, tyX8_ok, nmX8⟩, rfl, rfl, by decide +kernel, fun a => ⟨rfl, rfl⟩⟩
theorem IX8_13 : FI RX8 13 8 1 := ⟨RX8, TX8, 21, tyX8, .array .int, ⟨rfl, by decide, q761, inG8, tyX8_ok, nmX8⟩, rfl, rfl, by decide +kernel, fun a => ⟨rfl, rfl⟩⟩
theorem IX8_16 : FI RX8 16 8 2 := ⟨RX8, TX8, 21, tyX8, .array .int, ⟨rfl, by decide, q762, inG8, tyX8_ok, nmX8⟩, rfl, rfl, by decide +kernel, fun a => ⟨rfl, rfl⟩⟩
theorem IX8_19 : FI RX8 19 8 3 := ⟨RX8, TX8, 21, tyX8, .array .int, ⟨rfl, by decide, q763, inG8, tyX8_ok, nmX8⟩, rfl, rfl, by decide +kernel, fun a => ⟨rfl, rfl⟩⟩
theorem IX8_22 : FI RX8 22 8 5 := ⟨RX8, TX8, 21, tyX8, .array .int, ⟨rfl, by decide, q765, inG8, tyX8_ok, nmX8⟩, rfl, rfl, by decide +kernel, fun a => ⟨rfl, rfl⟩⟩
theorem IX8_25 : FI RX8 25 8 6 := ⟨RX8, TX8, 21, tyX8, .array .int, ⟨rfl, by decide, q766, inG8, tyX8_ok, nmX8⟩, rfl, rfl, by decide +kernel, fun a => ⟨rfl, rfl⟩⟩
theorem IX8_28 : FI RX8 28 8 8 := ⟨RX8, TX8, 21, tyX8, .array .int, ⟨rfl, by decide, q768, inG8, tyX8_ok, nmX8⟩, rfl, rfl, by decide +kernel, fun a => ⟨rfl, rfl⟩⟩
theorem IX8_31 : FI RX8 31 8 9 := ⟨RX8, TX8, 21, tyX8, .array .int, ⟨rfl, by decide, q769, inG8, tyX8_ok, nmX8⟩, rfl, rfl, by decide +kernel, fun a => ⟨rfl, rfl⟩⟩
theorem IX8_34 : FI RX8 34 8 10 := ⟨RX8, TX8, 21, tyX8, .array .int, ⟨rfl, by decide, q770, inG8, tyX8_ok, nmX8⟩, rfl, rfl, by decide +kernel, fun a => ⟨rfl, rfl⟩⟩
theorem HX7_9 : KI RX7 9 mX6_init 0 := ⟨⟨q28, q29, q2, q30⟩, ⟨rfl, rfl⟩, ⟨by decide +kernel, by decide +kernel, by decide +kernel⟩, Nat.le_of_ble_eq_true rfl⟩
theorem HX6_11 : KI RX6 11 mX2_init 0 := ⟨⟨q34, q35, q3, q36⟩, ⟨rfl, rfl⟩, ⟨by decide +kernel, by decide +kernel, by decide +kernel⟩, Nat.le_of_ble_eq_true rfl⟩
theorem HX5_11 : KI RX5 11 mX2_init 0 := ⟨⟨q145, q35, q3, q36⟩, ⟨rfl, rfl⟩, ⟨by decide +kernel, by decide +kernel, by decide +kernel⟩, Nat.le_of_ble_eq_true rfl⟩
theorem HX7_42 : KI RX7 42 mX0_init 1 := ⟨⟨q174, q175, q8, q176⟩, ⟨rfl, rfl⟩, ⟨by decide +kernel, by decide +kernel, by decide +kernel⟩, Nat.le_of_ble_eq_true rfl⟩
theorem JX6_35 : KJ RX6 35 mX4_init 0 := ⟨⟨by decide +kernel, q81, q5, q82⟩, ⟨rfl, rfl⟩, ⟨by decide +kernel, by decide +kernel, by decide +kernel⟩, Nat.le_of_ble_eq_true rfl⟩
theorem JX7_28 : KJ RX7 28 mX5_init 0 := ⟨⟨by decide +kernel, q141, q6, q142⟩, ⟨rfl, rfl⟩, ⟨by decide +kernel, by decide +kernel, by decide +kernel⟩, Nat.le_of_ble_eq_true rfl⟩
theorem JX5_20 : KJ RX5 20 mX4_init 0 := ⟨⟨by decide +kernel, q81, q5, q82⟩, ⟨rfl, rfl⟩, ⟨by decide +kernel, by decide +kernel, by decide +kernel⟩, Nat.le_of_ble_eq_true rfl⟩
theorem JX7_35 : KJ RX7 35 mX3_init 0 := ⟨⟨by decide +kernel, q160, q7, q161⟩, ⟨rfl, rfl⟩, ⟨by decide +kernel, by decide +kernel, by decide +kernel⟩, Nat.le_of_ble_eq_true rfl⟩
theorem JX7_59 : KJ RX7 59 mX1_init 0 := ⟨⟨by decide +kernel, q198, q9, q199⟩, ⟨rfl, rfl⟩, ⟨by decide +kernel, by decide +kernel, by decide +kernel⟩, Nat.le_of_ble_eq_true rfl⟩
def stI (σ : Sg) (S : Nat) : Sg := fillS (st2 (st2 (st2 σ S 3 8) S 4 20) S 5 0) (S + 2) 16 10
theorem zz_st {σ : Sg} {S b : Nat} (h : zz σ b) (hb : S + 2 < b) : zz (stI σ S) b := (((h.st (by omega)).st (by omega)).st (by omega)).fl (by omega)
def wdI (σ : Sg) (W : Nat) : Sg := fillS (st2 (st2 (stI σ (W + 1)) W 2 0) W 4 1) (W + 6) 10 (-1)
theorem zz_wd {σ : Sg} {S b : Nat} (h : zz σ b) (hb : S + 6 < b) : zz (wdI σ S) b := (((zz_st h (by omega)).st (by omega)).st (by omega)).fl (by omega)
def tpI (σ : Sg) (S : Nat) : Sg := st2 σ S 1 0
theorem zz_tp {σ : Sg} {S b : Nat} (h : zz σ b) (hb : S < b) : zz (tpI σ S) b := h.st (by omega)
def rdI (σ : Sg) (S : Nat) : Sg := st2 (st2 (st2 (st2 σ S 1 0) S 2 0) S 3 0) S 4 0
theorem zz_rd {σ : Sg} {S b : Nat} (h : zz σ b) (hb : S < b) : zz (rdI σ S) b := (((h.st (by omega)).st (by omega)).st (by omega)).st (by omega)
def shI (σ : Sg) (S : Nat) : Sg := st2 (st2 σ S 1 0) S 2 0
theorem zz_sh {σ : Sg} {S b : Nat} (h : zz σ b) (hb : S < b) : zz (shI σ S) b := (h.st (by omega)).st (by omega)
set_option maxHeartbeats 4000000 in
set_option maxRecDepth 20000 in
theorem n_street (l : Launch) (G : GG) {T0 : List Sh} {S : Nat} (hS : T0.length = S) (σ : Sg) (h0 : zz σ (S + 1)) : Cn l G mX2_init 1 3 48 (S + 1) (T0 ++ [.inl (2, [nl, nl, nl, nu, nu, nu])]) (T0 ++ [.inl (2, [rf (S + 1), rf (S + 2), rf (S + 3), nu, nu, nu]), ia 16, ia 16, ia 16]) [.ref (ad G S)] σ (stI σ S) := by
  refine cn_intro (by decide) rfl (Nat.le_of_ble_eq_true rfl) (fun X B hH hM hC hN R => ?_)
  show V (cx X 0 0) G (T0 ++ [.inl (2, [nl, nl, nl, nu, nu, nu])]) σ [some (.ref (ad G S))] [] 0
  refine r_aload_n (pc := 0) B dX2_init_0 rfl ?_
  refine u_obj (pc := 1) B q37 (by decide) (Nat.le_of_ble_eq_true rfl) dX2_init_1 ?_
  refine r_aload_n (pc := 4) B dX2_init_4 rfl ?_
  refine r_bipush (pc := 5) (x := 16) B dX2_init_5 (by decide) ?_
  refine u_newa (pc := 7) (m := 1) (N := 16) (loc' := [.inl (2, [nl, nl, nl, nu, nu, nu]), ia 16]) B hS rfl (by rw [hH]; unfold ad; omega) (by omega) rfl (by omega) (fun i => h0 _ (by omega) i) (by rw [hC]; exact Nat.le_of_ble_eq_true rfl) (by rw [hN]; exact Nat.le_of_ble_eq_true rfl) rfl dX2_init_7 ?_
  have B := B.mv (k' := 1) (n' := 16) (by rw [hC]; exact Nat.le_of_ble_eq_true rfl) (by rw [hN]; exact Nat.le_of_ble_eq_true rfl)
  refine u_putr (pc := 9) (m := 0) (j := S + 1) (i := 0) (loc' := [.inl (2, [rf (S + 1), nl, nl, nu, nu, nu]), ia 16]) B hM hS IX2_9 rfl (by show 0 < 6; decide) rfl dX2_init_9 ?_
  refine r_aload_n (pc := 12) B dX2_init_12 rfl ?_
  refine r_bipush (pc := 13) (x := 16) B dX2_init_13 (by decide) ?_
  refine u_newa (pc := 15) (m := 2) (N := 16) (loc' := [.inl (2, [rf (S + 1), nl, nl, nu, nu, nu]), ia 16, ia 16]) B hS rfl (by rw [hH]; unfold ad; omega) (by omega) rfl (by omega) (fun i => h0 _ (by omega) i) (by rw [hC]; exact Nat.le_of_ble_eq_true rfl) (by rw [hN]; exact Nat.le_of_ble_eq_true rfl) rfl dX2_init_15 ?_
  have B := B.mv (k' := 2) (n' := 32) (by rw [hC]; exact Nat.le_of_ble_eq_true rfl) (by rw [hN]; exact Nat.le_of_ble_eq_true rfl)
  refine u_putr (pc := 17) (m := 0) (j := S + 2) (i := 1) (loc' := [.inl (2, [rf (S + 1), rf (S + 2), nl, nu, nu, nu]), ia 16, ia 16]) B hM hS IX2_15 rfl (by show 1 < 6; decide) rfl dX2_init_17 ?_
  refine r_aload_n (pc := 20) B dX2_init_20 rfl ?_
  refine r_bipush (pc := 21) (x := 16) B dX2_init_21 (by decide) ?_
  refine u_newa (pc := 23) (m := 3) (N := 16) (loc' := [.inl (2, [rf (S + 1), rf (S + 2), nl, nu, nu, nu]), ia 16, ia 16, ia 16]) B hS rfl (by rw [hH]; unfold ad; omega) (by omega) rfl (by omega) (fun i => h0 _ (by omega) i) (by rw [hC]; exact Nat.le_of_ble_eq_true rfl) (by rw [hN]; exact Nat.le_of_ble_eq_true rfl) rfl dX2_init_23 ?_
  have B := B.mv (k' := 3) (n' := 48) (by rw [hC]; exact Nat.le_of_ble_eq_true rfl) (by rw [hN]; exact Nat.le_of_ble_eq_true rfl)
  refine u_putr (pc := 25) (m := 0) (j := S + 3) (i := 2) (loc' := [.inl (2, [rf (S + 1), rf (S + 2), rf (S + 3), nu, nu, nu]), ia 16, ia 16, ia 16]) B hM hS IX2_18 rfl (by show 2 < 6; decide) rfl dX2_init_25 ?_
  refine r_aload_n (pc := 28) B dX2_init_28 rfl ?_
  refine r_bipush (pc := 29) (x := 8) B dX2_init_29 (by decide) ?_
  refine r_puti (pc := 31) (k := S + 0) B PX2_21 (shAt hS rfl) rfl dX2_init_31 ?_
  have z1 : zz (st2 (σ) (S + 0) 3 8) (S + 4) := (h0.le (by omega)).st (by omega)
  refine r_aload_n (pc := 34) B dX2_init_34 rfl ?_
  refine r_bipush (pc := 35) (x := 20) B dX2_init_35 (by decide) ?_
  refine r_puti (pc := 37) (k := S + 0) B PX2_25 (shAt hS rfl) rfl dX2_init_37 ?_
  have z2 : zz (st2 (st2 (σ) (S + 0) 3 8) (S + 0) 4 20) (S + 4) := (z1.le (by omega)).st (by omega)
  refine r_aload_n (pc := 40) B dX2_init_40 rfl ?_
  refine r_iconst (pc := 41) (x := 0) B dX2_init_41 (by decide) ?_
  refine r_puti (pc := 42) (k := S + 0) B PX2_28 (shAt hS rfl) rfl dX2_init_42 ?_
  have z3 : zz (st2 (st2 (st2 (σ) (S + 0) 3 8) (S + 0) 4 20) (S + 0) 5 0) (S + 4) := (z2.le (by omega)).st (by omega)
  refine r_aload_n (pc := 45) B dX2_init_45 rfl ?_
  refine r_getr (pc := 46) (k := S + 0) (j := S + 2) B FX2_15 (shAt hS rfl) rfl dX2_init_46 ?_
  refine r_bipush (pc := 49) (x := 10) B dX2_init_49 (by decide) ?_
  refine r_cSv2 (pc := 51) B KX2_31 (c_fill l G _ _ (k := S + 2) (N := 16) (shAt hS rfl) (by omega) 10) (by decide) (Nat.le_of_ble_eq_true rfl) dX2_init_51 ?_
  have z4 : zz (fillS (st2 (st2 (st2 (σ) (S + 0) 3 8) (S + 0) 4 20) (S + 0) 5 0) (S + 2) 16 10) (S + 4) := (z3.le (by omega)).fl (by omega)
  exact r_vret (pc := 54) B R dX2_init_54 ⟨rfl, rfl⟩
set_option maxHeartbeats 4000000 in
set_option maxRecDepth 20000 in
theorem n_umb (l : Launch) (G : GG) {T0 : List Sh} {S : Nat} (hS : T0.length = S) (σ : Sg) : Cn l G mX4_init 1 0 0 (S + 1) (T0 ++ [.inl (4, [nu, nu, nu, nu, nu, nu, nu, nu])]) (T0 ++ [.inl (4, [nu, nu, nu, nu, nu, nu, nu, nu])]) [.ref (ad G S)] σ (σ) := by
  refine cn_intro (by decide) rfl (Nat.le_of_ble_eq_true rfl) (fun X B hH hM hC hN R => ?_)
  show V (cx X 0 0) G (T0 ++ [.inl (4, [nu, nu, nu, nu, nu, nu, nu, nu])]) σ [some (.ref (ad G S))] [] 0
  refine r_aload_n (pc := 0) B dX4_init_0 rfl ?_
  refine u_obj (pc := 1) B q83 (by decide) (Nat.le_of_ble_eq_true rfl) dX4_init_1 ?_
  exact r_vret (pc := 4) B R dX4_init_4 ⟨rfl, rfl⟩
set_option maxHeartbeats 4000000 in
set_option maxRecDepth 20000 in
theorem n_tape (l : Launch) (G : GG) {T0 : List Sh} {S : Nat} (hS : T0.length = S) (σ : Sg) (h0 : zz σ (S + 1)) : Cn l G mX3_init 1 1 120 (S + 1) (T0 ++ [.inl (3, [nl, nu])]) (T0 ++ [.inl (3, [rf (S + 1), nu]), ia 120]) [.ref (ad G S)] σ (tpI σ S) := by
  refine cn_intro (by decide) rfl (Nat.le_of_ble_eq_true rfl) (fun X B hH hM hC hN R => ?_)
  show V (cx X 0 0) G (T0 ++ [.inl (3, [nl, nu])]) σ [some (.ref (ad G S))] [] 0
  refine r_aload_n (pc := 0) B dX3_init_0 rfl ?_
  refine u_obj (pc := 1) B q162 (by decide) (Nat.le_of_ble_eq_true rfl) dX3_init_1 ?_
  refine r_aload_n (pc := 4) B dX3_init_4 rfl ?_
  refine r_bipush (pc := 5) (x := 120) B dX3_init_5 (by decide) ?_
  refine u_newa (pc := 7) (m := 1) (N := 120) (loc' := [.inl (3, [nl, nu]), ia 120]) B hS rfl (by rw [hH]; unfold ad; omega) (by omega) rfl (by omega) (fun i => h0 _ (by omega) i) (by rw [hC]; exact Nat.le_of_ble_eq_true rfl) (by rw [hN]; exact Nat.le_of_ble_eq_true rfl) rfl dX3_init_7 ?_
  have B := B.mv (k' := 1) (n' := 120) (by rw [hC]; exact Nat.le_of_ble_eq_true rfl) (by rw [hN]; exact Nat.le_of_ble_eq_true rfl)
  refine u_putr (pc := 9) (m := 0) (j := S + 1) (i := 0) (loc' := [.inl (3, [rf (S + 1), nu]), ia 120]) B hM hS IX3_9 rfl (by show 0 < 2; decide) rfl dX3_init_9 ?_
  refine r_aload_n (pc := 12) B dX3_init_12 rfl ?_
  refine r_iconst (pc := 13) (x := 0) B dX3_init_13 (by decide) ?_
  refine r_puti (pc := 14) (k := S + 0) B PX3_15 (shAt hS rfl) rfl dX3_init_14 ?_
  have z1 : zz (st2 (σ) (S + 0) 1 0) (S + 2) := (h0.le (by omega)).st (by omega)
  exact r_vret (pc := 17) B R dX3_init_17 ⟨rfl, rfl⟩
set_option maxHeartbeats 4000000 in
set_option maxRecDepth 20000 in
theorem n_sheet (l : Launch) (G : GG) {T0 : List Sh} {S : Nat} (hS : T0.length = S) (σ : Sg) (h0 : zz σ (S + 1)) : Cn l G mX1_init 1 1 40 (S + 1) (T0 ++ [.inl (1, [nl, nu, nu])]) (T0 ++ [.inl (1, [rf (S + 1), nu, nu]), ia 40]) [.ref (ad G S)] σ (shI σ S) := by
  refine cn_intro (by decide) rfl (Nat.le_of_ble_eq_true rfl) (fun X B hH hM hC hN R => ?_)
  show V (cx X 0 0) G (T0 ++ [.inl (1, [nl, nu, nu])]) σ [some (.ref (ad G S))] [] 0
  refine r_aload_n (pc := 0) B dX1_init_0 rfl ?_
  refine u_obj (pc := 1) B q200 (by decide) (Nat.le_of_ble_eq_true rfl) dX1_init_1 ?_
  refine r_aload_n (pc := 4) B dX1_init_4 rfl ?_
  refine r_bipush (pc := 5) (x := 40) B dX1_init_5 (by decide) ?_
  refine u_newa (pc := 7) (m := 1) (N := 40) (loc' := [.inl (1, [nl, nu, nu]), ia 40]) B hS rfl (by rw [hH]; unfold ad; omega) (by omega) rfl (by omega) (fun i => h0 _ (by omega) i) (by rw [hC]; exact Nat.le_of_ble_eq_true rfl) (by rw [hN]; exact Nat.le_of_ble_eq_true rfl) rfl dX1_init_7 ?_
  have B := B.mv (k' := 1) (n' := 40) (by rw [hC]; exact Nat.le_of_ble_eq_true rfl) (by rw [hN]; exact Nat.le_of_ble_eq_true rfl)
  refine u_putr (pc := 9) (m := 0) (j := S + 1) (i := 0) (loc' := [.inl (1, [rf (S + 1), nu, nu]), ia 40]) B hM hS IX1_9 rfl (by show 0 < 3; decide) rfl dX1_init_9 ?_
  refine r_aload_n (pc := 12) B dX1_init_12 rfl ?_
  refine r_iconst (pc := 13) (x := 0) B dX1_init_13 (by decide) ?_
  refine r_puti (pc := 14) (k := S + 0) B PX1_15 (shAt hS rfl) rfl dX1_init_14 ?_
  have z1 : zz (st2 (σ) (S + 0) 1 0) (S + 2) := (h0.le (by omega)).st (by omega)
  refine r_aload_n (pc := 17) B dX1_init_17 rfl ?_
  refine r_iconst (pc := 18) (x := 0) B dX1_init_18 (by decide) ?_
  refine r_puti (pc := 19) (k := S + 0) B PX1_19 (shAt hS rfl) rfl dX1_init_19 ?_
  have z2 : zz (st2 (st2 (σ) (S + 0) 1 0) (S + 0) 2 0) (S + 2) := (z1.le (by omega)).st (by omega)
  exact r_vret (pc := 22) B R dX1_init_22 ⟨rfl, rfl⟩
set_option maxHeartbeats 4000000 in
set_option maxRecDepth 20000 in
theorem n_reader (l : Launch) (G : GG) {T0 : List Sh} {S : Nat} (hS : T0.length = S) (σ : Sg) (h0 : zz σ (S + 1)) (t : Nat) : Cn l G mX0_init 1 0 0 (S + 1) (T0 ++ [.inl (0, [nl, nu, nu, nu, nu])]) (T0 ++ [.inl (0, [rf t, nu, nu, nu, nu])]) [.ref (ad G S), .ref (ad G t)] σ (rdI σ S) := by
  refine cn_intro (by decide) rfl (Nat.le_of_ble_eq_true rfl) (fun X B hH hM hC hN R => ?_)
  show V (cx X 0 0) G (T0 ++ [.inl (0, [nl, nu, nu, nu, nu])]) σ [some (.ref (ad G S)), some (.ref (ad G t))] [] 0
  refine r_aload_n (pc := 0) B dX0_init_0 rfl ?_
  refine u_obj (pc := 1) B q177 (by decide) (Nat.le_of_ble_eq_true rfl) dX0_init_1 ?_
  refine r_aload_n (pc := 4) B dX0_init_4 rfl ?_
  refine r_iconst (pc := 5) (x := 0) B dX0_init_5 (by decide) ?_
  refine r_puti (pc := 6) (k := S + 0) B PX0_9 (shAt hS rfl) rfl dX0_init_6 ?_
  have z1 : zz (st2 (σ) (S + 0) 1 0) (S + 1) := (h0.le (by omega)).st (by omega)
  refine r_aload_n (pc := 9) B dX0_init_9 rfl ?_
  refine r_iconst (pc := 10) (x := 0) B dX0_init_10 (by decide) ?_
  refine r_puti (pc := 11) (k := S + 0) B PX0_15 (shAt hS rfl) rfl dX0_init_11 ?_
  have z2 : zz (st2 (st2 (σ) (S + 0) 1 0) (S + 0) 2 0) (S + 1) := (z1.le (by omega)).st (by omega)
  refine r_aload_n (pc := 14) B dX0_init_14 rfl ?_
  refine r_iconst (pc := 15) (x := 0) B dX0_init_15 (by decide) ?_
  refine r_puti (pc := 16) (k := S + 0) B PX0_18 (shAt hS rfl) rfl dX0_init_16 ?_
  have z3 : zz (st2 (st2 (st2 (σ) (S + 0) 1 0) (S + 0) 2 0) (S + 0) 3 0) (S + 1) := (z2.le (by omega)).st (by omega)
  refine r_aload_n (pc := 19) B dX0_init_19 rfl ?_
  refine r_iconst (pc := 20) (x := 0) B dX0_init_20 (by decide) ?_
  refine r_puti (pc := 21) (k := S + 0) B PX0_21 (shAt hS rfl) rfl dX0_init_21 ?_
  have z4 : zz (st2 (st2 (st2 (st2 (σ) (S + 0) 1 0) (S + 0) 2 0) (S + 0) 3 0) (S + 0) 4 0) (S + 1) := (z3.le (by omega)).st (by omega)
  refine r_aload_n (pc := 24) B dX0_init_24 rfl ?_
  refine r_aload_n (pc := 25) B dX0_init_25 rfl ?_
  refine u_putr (pc := 26) (m := 0) (j := t) (i := 0) (loc' := [.inl (0, [rf (t), nu, nu, nu, nu])]) B hM hS IX0_24 rfl (by show 0 < 5; decide) rfl dX0_init_26 ?_
  exact r_vret (pc := 29) B R dX0_init_29 ⟨rfl, rfl⟩
set_option maxHeartbeats 4000000 in
set_option maxRecDepth 20000 in
theorem n_walk (l : Launch) (G : GG) {T0 : List Sh} {S : Nat} (hS : T0.length = S) (σ : Sg) (h0 : zz σ (S + 1)) : Cn l G mX5_init 2 5 62 (S + 1) (T0 ++ [.inl (5, [nl, nl])]) (T0 ++ [.inl (5, [rf (S + 1), rf (S + 5)]), .inl (2, [rf (S + 1 + 1), rf (S + 1 + 2), rf (S + 1 + 3), nu, nu, nu]), ia 16, ia 16, ia 16, .inl (4, [nu, nu, nu, nu, nu, nu, nu, nu])]) [.ref (ad G S)] σ (stI σ (S + 1)) := by
  refine cn_intro (by decide) rfl (Nat.le_of_ble_eq_true rfl) (fun X B hH hM hC hN R => ?_)
  show V (cx X 0 0) G (T0 ++ [.inl (5, [nl, nl])]) σ [some (.ref (ad G S))] [] 0
  refine r_aload_n (pc := 0) B dX5_init_0 rfl ?_
  refine u_obj (pc := 1) B q143 (by decide) (Nat.le_of_ble_eq_true rfl) dX5_init_1 ?_
  refine r_aload_n (pc := 4) B dX5_init_4 rfl ?_
  refine u_new (pc := 5) (m := 1) (loc' := [.inl (5, [nl, nl]), .inl (2, [nl, nl, nl, nu, nu, nu])]) B hS rfl (by rw [hH]; unfold ad; omega) (by omega) tyX2 (ci := 2) (fs := [nl, nl, nl, nu, nu, nu]) (C := RX2) (Tt := TX2) (N := 6) rfl inG2 tyX2_ok q144 q33 q3 (df2 G) (fun i => h0 _ (by omega) i) (by rw [hC]; exact Nat.le_of_ble_eq_true rfl) (by rw [hN]; exact Nat.le_of_ble_eq_true rfl) rfl dX5_init_5 ?_
  have B := B.mv (k' := 1) (n' := 6) (by rw [hC]; exact Nat.le_of_ble_eq_true rfl) (by rw [hN]; exact Nat.le_of_ble_eq_true rfl)
  refine r_dup (pc := 8) B rfl dX5_init_8 ?_
  have hA9 : (T0 ++ ([.inl (5, [nl, nl])] : List Sh)).length = S + 1 := by rw [List.length_append, hS]; rfl
  have c9 := n_street l G (T0 := T0 ++ [.inl (5, [nl, nl])]) hA9 (σ) (h0.le (by omega))
  rw [List.append_assoc] at c9
  try rw [List.append_assoc] at c9
  refine u_cI (pc := 9) (As := []) (mc := 3) (ms := 48) B HX5_11 c9 (by decide) rfl (by rw [List.length_append, hS]; rfl) (by rw [hH]; unfold ad; omega) (by omega) (by rw [hC]; exact Nat.le_of_ble_eq_true rfl) (by rw [hN]; exact Nat.le_of_ble_eq_true rfl) (Nat.le_of_ble_eq_true rfl) dX5_init_9 rfl ?_
  have B := B.mv (k' := 4) (n' := 54) (by rw [hC]; exact Nat.le_of_ble_eq_true rfl) (by rw [hN]; exact Nat.le_of_ble_eq_true rfl)
  show V (cx X 4 54) G (T0 ++ [.inl (5, [nl, nl]), .inl (2, [rf (S + 1 + 1), rf (S + 1 + 2), rf (S + 1 + 3), nu, nu, nu]), ia 16, ia 16, ia 16]) _ _ _ _
  have z1 : zz (stI (σ) (S + 1)) (S + 5) := zz_st (h0.le (by omega)) (by omega)
  refine u_putr (pc := 12) (m := 0) (j := S + 1) (i := 0) (loc' := [.inl (5, [rf (S + 1), nl]), .inl (2, [rf (S + 1 + 1), rf (S + 1 + 2), rf (S + 1 + 3), nu, nu, nu]), ia 16, ia 16, ia 16]) B hM hS IX5_12 rfl (by show 0 < 2; decide) rfl dX5_init_12 ?_
  refine r_aload_n (pc := 15) B dX5_init_15 rfl ?_
  refine u_new (pc := 16) (m := 5) (loc' := [.inl (5, [rf (S + 1), nl]), .inl (2, [rf (S + 1 + 1), rf (S + 1 + 2), rf (S + 1 + 3), nu, nu, nu]), ia 16, ia 16, ia 16, .inl (4, [nu, nu, nu, nu, nu, nu, nu, nu])]) B hS rfl (by rw [hH]; unfold ad; omega) (by omega) tyX4 (ci := 4) (fs := [nu, nu, nu, nu, nu, nu, nu, nu]) (C := RX4) (Tt := TX4) (N := 8) rfl inG4 tyX4_ok q146 q79 q5 (df4 G) (fun i => z1 _ (by omega) i) (by rw [hC]; exact Nat.le_of_ble_eq_true rfl) (by rw [hN]; exact Nat.le_of_ble_eq_true rfl) rfl dX5_init_16 ?_
  have B := B.mv (k' := 5) (n' := 62) (by rw [hC]; exact Nat.le_of_ble_eq_true rfl) (by rw [hN]; exact Nat.le_of_ble_eq_true rfl)
  refine r_dup (pc := 19) B rfl dX5_init_19 ?_
  have hA20 : (T0 ++ ([.inl (5, [rf (S + 1), nl]), .inl (2, [rf (S + 1 + 1), rf (S + 1 + 2), rf (S + 1 + 3), nu, nu, nu]), ia 16, ia 16, ia 16] : List Sh)).length = S + 5 := by rw [List.length_append, hS]; rfl
  have c20 := n_umb l G (T0 := T0 ++ [.inl (5, [rf (S + 1), nl]), .inl (2, [rf (S + 1 + 1), rf (S + 1 + 2), rf (S + 1 + 3), nu, nu, nu]), ia 16, ia 16, ia 16]) (S := S + 5) hA20 (stI (σ) (S + 1))
  rw [List.append_assoc] at c20
  try rw [List.append_assoc] at c20
  refine u_cJ (pc := 20) (As := []) (mc := 0) (ms := 0) B JX5_20 c20 (by decide) rfl (by rw [List.length_append, hS]; rfl) (by rw [hH]; unfold ad; omega) (by omega) (by rw [hC]; exact Nat.le_of_ble_eq_true rfl) (by rw [hN]; exact Nat.le_of_ble_eq_true rfl) (Nat.le_of_ble_eq_true rfl) dX5_init_20 rfl ?_
  have B := B.mv (k' := 5) (n' := 62) (by rw [hC]; exact Nat.le_of_ble_eq_true rfl) (by rw [hN]; exact Nat.le_of_ble_eq_true rfl)
  show V (cx X 5 62) G (T0 ++ [.inl (5, [rf (S + 1), nl]), .inl (2, [rf (S + 1 + 1), rf (S + 1 + 2), rf (S + 1 + 3), nu, nu, nu]), ia 16, ia 16, ia 16, .inl (4, [nu, nu, nu, nu, nu, nu, nu, nu])]) _ _ _ _
  refine u_putr (pc := 23) (m := 0) (j := S + 5) (i := 1) (loc' := [.inl (5, [rf (S + 1), rf (S + 5)]), .inl (2, [rf (S + 1 + 1), rf (S + 1 + 2), rf (S + 1 + 3), nu, nu, nu]), ia 16, ia 16, ia 16, .inl (4, [nu, nu, nu, nu, nu, nu, nu, nu])]) B hM hS IX5_21 rfl (by show 1 < 2; decide) rfl dX5_init_23 ?_
  exact r_vret (pc := 26) B R dX5_init_26 ⟨rfl, rfl⟩
set_option maxHeartbeats 4000000 in
set_option maxRecDepth 20000 in
theorem n_world (l : Launch) (G : GG) {T0 : List Sh} {S : Nat} (hS : T0.length = S) (σ : Sg) (h0 : zz σ (S + 1)) : Cn l G mX6_init 2 14 136 (S + 1) (T0 ++ [.inl (6, [nl, nl, nu, nl, nu])]) (T0 ++ [.inl (6, [rf (S + 1), rf (S + 5), nu, rf (S + 6), nu]), .inl (2, [rf (S + 1 + 1), rf (S + 1 + 2), rf (S + 1 + 3), nu, nu, nu]), ia 16, ia 16, ia 16, .inr (.inr (2, [some (S + 7), some (S + 8), some (S + 9), some (S + 10), some (S + 11), some (S + 12), some (S + 13), some (S + 14)])), ia 10, .inl (4, [nu, nu, nu, nu, nu, nu, nu, nu]), .inl (4, [nu, nu, nu, nu, nu, nu, nu, nu]), .inl (4, [nu, nu, nu, nu, nu, nu, nu, nu]), .inl (4, [nu, nu, nu, nu, nu, nu, nu, nu]), .inl (4, [nu, nu, nu, nu, nu, nu, nu, nu]), .inl (4, [nu, nu, nu, nu, nu, nu, nu, nu]), .inl (4, [nu, nu, nu, nu, nu, nu, nu, nu]), .inl (4, [nu, nu, nu, nu, nu, nu, nu, nu])]) [.ref (ad G S)] σ (wdI σ S) := by
  refine cn_intro (by decide) rfl (Nat.le_of_ble_eq_true rfl) (fun X B hH hM hC hN R => ?_)
  show V (cx X 0 0) G (T0 ++ [.inl (6, [nl, nl, nu, nl, nu])]) σ [some (.ref (ad G S)), none] [] 0
  refine r_aload_n (pc := 0) B dX6_init_0 rfl ?_
  refine u_obj (pc := 1) B q31 (by decide) (Nat.le_of_ble_eq_true rfl) dX6_init_1 ?_
  refine r_aload_n (pc := 4) B dX6_init_4 rfl ?_
  refine u_new (pc := 5) (m := 1) (loc' := [.inl (6, [nl, nl, nu, nl, nu]), .inl (2, [nl, nl, nl, nu, nu, nu])]) B hS rfl (by rw [hH]; unfold ad; omega) (by omega) tyX2 (ci := 2) (fs := [nl, nl, nl, nu, nu, nu]) (C := RX2) (Tt := TX2) (N := 6) rfl inG2 tyX2_ok q32 q33 q3 (df2 G) (fun i => h0 _ (by omega) i) (by rw [hC]; exact Nat.le_of_ble_eq_true rfl) (by rw [hN]; exact Nat.le_of_ble_eq_true rfl) rfl dX6_init_5 ?_
  have B := B.mv (k' := 1) (n' := 6) (by rw [hC]; exact Nat.le_of_ble_eq_true rfl) (by rw [hN]; exact Nat.le_of_ble_eq_true rfl)
  refine r_dup (pc := 8) B rfl dX6_init_8 ?_
  have hA9 : (T0 ++ ([.inl (6, [nl, nl, nu, nl, nu])] : List Sh)).length = S + 1 := by rw [List.length_append, hS]; rfl
  have c9 := n_street l G (T0 := T0 ++ [.inl (6, [nl, nl, nu, nl, nu])]) hA9 (σ) (h0.le (by omega))
  rw [List.append_assoc] at c9
  try rw [List.append_assoc] at c9
  refine u_cI (pc := 9) (As := []) (mc := 3) (ms := 48) B HX6_11 c9 (by decide) rfl (by rw [List.length_append, hS]; rfl) (by rw [hH]; unfold ad; omega) (by omega) (by rw [hC]; exact Nat.le_of_ble_eq_true rfl) (by rw [hN]; exact Nat.le_of_ble_eq_true rfl) (Nat.le_of_ble_eq_true rfl) dX6_init_9 rfl ?_
  have B := B.mv (k' := 4) (n' := 54) (by rw [hC]; exact Nat.le_of_ble_eq_true rfl) (by rw [hN]; exact Nat.le_of_ble_eq_true rfl)
  show V (cx X 4 54) G (T0 ++ [.inl (6, [nl, nl, nu, nl, nu]), .inl (2, [rf (S + 1 + 1), rf (S + 1 + 2), rf (S + 1 + 3), nu, nu, nu]), ia 16, ia 16, ia 16]) _ _ _ _
  have z1 : zz (stI (σ) (S + 1)) (S + 5) := zz_st (h0.le (by omega)) (by omega)
  refine u_putr (pc := 12) (m := 0) (j := S + 1) (i := 0) (loc' := [.inl (6, [rf (S + 1), nl, nu, nl, nu]), .inl (2, [rf (S + 1 + 1), rf (S + 1 + 2), rf (S + 1 + 3), nu, nu, nu]), ia 16, ia 16, ia 16]) B hM hS IX6_12 rfl (by show 0 < 5; decide) rfl dX6_init_12 ?_
  refine r_aload_n (pc := 15) B dX6_init_15 rfl ?_
  refine r_bipush (pc := 16) (x := 8) B dX6_init_16 (by decide) ?_
  refine u_newq (pc := 18) (m := 5) (N := 8) (c := 2) (C := "InsideOut$Umbrella") (js := [none, none, none, none, none, none, none, none]) (loc' := [.inl (6, [rf (S + 1), nl, nu, nl, nu]), .inl (2, [rf (S + 1 + 1), rf (S + 1 + 2), rf (S + 1 + 3), nu, nu, nu]), ia 16, ia 16, ia 16, .inr (.inr (2, [none, none, none, none, none, none, none, none]))]) B hS rfl (by rw [hH]; unfold ad; omega) (by omega) rfl q77 B.2.2.2.2.1.2.2.2.2.2 rfl (by omega) rfl nn8 (by rw [hC]; exact Nat.le_of_ble_eq_true rfl) (by rw [hN]; exact Nat.le_of_ble_eq_true rfl) rfl dX6_init_18 ?_
  have B := B.mv (k' := 5) (n' := 62) (by rw [hC]; exact Nat.le_of_ble_eq_true rfl) (by rw [hN]; exact Nat.le_of_ble_eq_true rfl)
  refine u_putr (pc := 21) (m := 0) (j := S + 5) (i := 1) (loc' := [.inl (6, [rf (S + 1), rf (S + 5), nu, nl, nu]), .inl (2, [rf (S + 1 + 1), rf (S + 1 + 2), rf (S + 1 + 3), nu, nu, nu]), ia 16, ia 16, ia 16, .inr (.inr (2, [none, none, none, none, none, none, none, none]))]) B hM hS IX6_20 rfl (by show 1 < 5; decide) rfl dX6_init_21 ?_
  refine r_aload_n (pc := 24) B dX6_init_24 rfl ?_
  refine r_iconst (pc := 25) (x := 0) B dX6_init_25 (by decide) ?_
  refine r_puti (pc := 26) (k := S + 0) B PX6_24 (shAt hS rfl) rfl dX6_init_26 ?_
  have z2 : zz (st2 (stI (σ) (S + 1)) (S + 0) 2 0) (S + 6) := (z1.le (by omega)).st (by omega)
  refine r_aload_n (pc := 29) B dX6_init_29 rfl ?_
  refine r_bipush (pc := 30) (x := 10) B dX6_init_30 (by decide) ?_
  refine u_newa (pc := 32) (m := 6) (N := 10) (loc' := [.inl (6, [rf (S + 1), rf (S + 5), nu, nl, nu]), .inl (2, [rf (S + 1 + 1), rf (S + 1 + 2), rf (S + 1 + 3), nu, nu, nu]), ia 16, ia 16, ia 16, .inr (.inr (2, [none, none, none, none, none, none, none, none])), ia 10]) B hS rfl (by rw [hH]; unfold ad; omega) (by omega) rfl (by omega) (fun i => z2 _ (by omega) i) (by rw [hC]; exact Nat.le_of_ble_eq_true rfl) (by rw [hN]; exact Nat.le_of_ble_eq_true rfl) rfl dX6_init_32 ?_
  have B := B.mv (k' := 6) (n' := 72) (by rw [hC]; exact Nat.le_of_ble_eq_true rfl) (by rw [hN]; exact Nat.le_of_ble_eq_true rfl)
  refine u_putr (pc := 34) (m := 0) (j := S + 6) (i := 3) (loc' := [.inl (6, [rf (S + 1), rf (S + 5), nu, rf (S + 6), nu]), .inl (2, [rf (S + 1 + 1), rf (S + 1 + 2), rf (S + 1 + 3), nu, nu, nu]), ia 16, ia 16, ia 16, .inr (.inr (2, [none, none, none, none, none, none, none, none])), ia 10]) B hM hS IX6_28 rfl (by show 3 < 5; decide) rfl dX6_init_34 ?_
  refine r_aload_n (pc := 37) B dX6_init_37 rfl ?_
  refine r_iconst (pc := 38) (x := 1) B dX6_init_38 (by decide) ?_
  refine r_puti (pc := 39) (k := S + 0) B PX6_32 (shAt hS rfl) rfl dX6_init_39 ?_
  have z3 : zz (st2 (st2 (stI (σ) (S + 1)) (S + 0) 2 0) (S + 0) 4 1) (S + 7) := (z2.le (by omega)).st (by omega)
  refine r_iconst (pc := 42) (x := 0) B dX6_init_42 (by decide) ?_
  refine r_istore_1 (pc := 43) B dX6_init_43 (by decide) rfl ?_
  refine r_iload_n (pc := 44) B dX6_init_44 rfl ?_
  refine r_bipush (pc := 45) (x := 8) B dX6_init_45 (by decide) ?_
  refine r_icmp_ge (pc := 47) B 69 dX6_init_47 (by decide) (fun hh => absurd hh (by decide)) (fun hh => ?_)
  refine r_aload_n (pc := 50) B dX6_init_50 rfl ?_
  refine r_getr (pc := 51) (k := S + 0) (j := S + 5) B FX6_20 (shAt hS rfl) rfl dX6_init_51 ?_
  refine r_iload_n (pc := 54) B dX6_init_54 rfl ?_
  refine u_new (pc := 55) (m := 7) (loc' := [.inl (6, [rf (S + 1), rf (S + 5), nu, rf (S + 6), nu]), .inl (2, [rf (S + 1 + 1), rf (S + 1 + 2), rf (S + 1 + 3), nu, nu, nu]), ia 16, ia 16, ia 16, .inr (.inr (2, [none, none, none, none, none, none, none, none])), ia 10, .inl (4, [nu, nu, nu, nu, nu, nu, nu, nu])]) B hS rfl (by rw [hH]; unfold ad; omega) (by omega) tyX4 (ci := 4) (fs := [nu, nu, nu, nu, nu, nu, nu, nu]) (C := RX4) (Tt := TX4) (N := 8) rfl inG4 tyX4_ok q77 q79 q5 (df4 G) (fun i => z3 _ (by omega) i) (by rw [hC]; exact Nat.le_of_ble_eq_true rfl) (by rw [hN]; exact Nat.le_of_ble_eq_true rfl) rfl dX6_init_55 ?_
  have B := B.mv (k' := 7) (n' := 80) (by rw [hC]; exact Nat.le_of_ble_eq_true rfl) (by rw [hN]; exact Nat.le_of_ble_eq_true rfl)
  refine r_dup (pc := 58) B rfl dX6_init_58 ?_
  have hA59 : (T0 ++ ([.inl (6, [rf (S + 1), rf (S + 5), nu, rf (S + 6), nu]), .inl (2, [rf (S + 1 + 1), rf (S + 1 + 2), rf (S + 1 + 3), nu, nu, nu]), ia 16, ia 16, ia 16, .inr (.inr (2, [none, none, none, none, none, none, none, none])), ia 10] : List Sh)).length = S + 7 := by rw [List.length_append, hS]; rfl
  have c59 := n_umb l G (T0 := T0 ++ [.inl (6, [rf (S + 1), rf (S + 5), nu, rf (S + 6), nu]), .inl (2, [rf (S + 1 + 1), rf (S + 1 + 2), rf (S + 1 + 3), nu, nu, nu]), ia 16, ia 16, ia 16, .inr (.inr (2, [none, none, none, none, none, none, none, none])), ia 10]) (S := S + 7) hA59 (st2 (st2 (stI (σ) (S + 1)) (S + 0) 2 0) (S + 0) 4 1)
  rw [List.append_assoc] at c59
  try rw [List.append_assoc] at c59
  refine u_cJ (pc := 59) (As := []) (mc := 0) (ms := 0) B JX6_35 c59 (by decide) rfl (by rw [List.length_append, hS]; rfl) (by rw [hH]; unfold ad; omega) (by omega) (by rw [hC]; exact Nat.le_of_ble_eq_true rfl) (by rw [hN]; exact Nat.le_of_ble_eq_true rfl) (Nat.le_of_ble_eq_true rfl) dX6_init_59 rfl ?_
  have B := B.mv (k' := 7) (n' := 80) (by rw [hC]; exact Nat.le_of_ble_eq_true rfl) (by rw [hN]; exact Nat.le_of_ble_eq_true rfl)
  show V (cx X 7 80) G (T0 ++ [.inl (6, [rf (S + 1), rf (S + 5), nu, rf (S + 6), nu]), .inl (2, [rf (S + 1 + 1), rf (S + 1 + 2), rf (S + 1 + 3), nu, nu, nu]), ia 16, ia 16, ia 16, .inr (.inr (2, [none, none, none, none, none, none, none, none])), ia 10, .inl (4, [nu, nu, nu, nu, nu, nu, nu, nu])]) _ _ _ _
  refine u_aast (pc := 62) (m := 5) (q := 7) (c := 2) (ci := 4) (r := (RX4, TX4, 8)) (loc' := [.inl (6, [rf (S + 1), rf (S + 5), nu, rf (S + 6), nu]), .inl (2, [rf (S + 1 + 1), rf (S + 1 + 2), rf (S + 1 + 3), nu, nu, nu]), ia 16, ia 16, ia 16, .inr (.inr (2, [some (S + 7), none, none, none, none, none, none, none])), ia 10, .inl (4, [nu, nu, nu, nu, nu, nu, nu, nu])]) B hS rfl rfl rfl rfl (ix_of 0 rfl) rfl dX6_init_62 ?_
  refine r_iinc_1 (pc := 63) (y := _ + 1) B dX6_init_63 rfl (by decide) rfl ?_
  refine r_goto (pc := 66) B 44 dX6_init_66 (by decide) ?_
  refine r_iload_n (pc := 44) B dX6_init_44 rfl ?_
  refine r_bipush (pc := 45) (x := 8) B dX6_init_45 (by decide) ?_
  refine r_icmp_ge (pc := 47) B 69 dX6_init_47 (by decide) (fun hh => absurd hh (by decide)) (fun hh => ?_)
  refine r_aload_n (pc := 50) B dX6_init_50 rfl ?_
  refine r_getr (pc := 51) (k := S + 0) (j := S + 5) B FX6_20 (shAt hS rfl) rfl dX6_init_51 ?_
  refine r_iload_n (pc := 54) B dX6_init_54 rfl ?_
  refine u_new (pc := 55) (m := 8) (loc' := [.inl (6, [rf (S + 1), rf (S + 5), nu, rf (S + 6), nu]), .inl (2, [rf (S + 1 + 1), rf (S + 1 + 2), rf (S + 1 + 3), nu, nu, nu]), ia 16, ia 16, ia 16, .inr (.inr (2, [some (S + 7), none, none, none, none, none, none, none])), ia 10, .inl (4, [nu, nu, nu, nu, nu, nu, nu, nu]), .inl (4, [nu, nu, nu, nu, nu, nu, nu, nu])]) B hS rfl (by rw [hH]; unfold ad; omega) (by omega) tyX4 (ci := 4) (fs := [nu, nu, nu, nu, nu, nu, nu, nu]) (C := RX4) (Tt := TX4) (N := 8) rfl inG4 tyX4_ok q77 q79 q5 (df4 G) (fun i => z3 _ (by omega) i) (by rw [hC]; exact Nat.le_of_ble_eq_true rfl) (by rw [hN]; exact Nat.le_of_ble_eq_true rfl) rfl dX6_init_55 ?_
  have B := B.mv (k' := 8) (n' := 88) (by rw [hC]; exact Nat.le_of_ble_eq_true rfl) (by rw [hN]; exact Nat.le_of_ble_eq_true rfl)
  refine r_dup (pc := 58) B rfl dX6_init_58 ?_
  have hA59 : (T0 ++ ([.inl (6, [rf (S + 1), rf (S + 5), nu, rf (S + 6), nu]), .inl (2, [rf (S + 1 + 1), rf (S + 1 + 2), rf (S + 1 + 3), nu, nu, nu]), ia 16, ia 16, ia 16, .inr (.inr (2, [some (S + 7), none, none, none, none, none, none, none])), ia 10, .inl (4, [nu, nu, nu, nu, nu, nu, nu, nu])] : List Sh)).length = S + 8 := by rw [List.length_append, hS]; rfl
  have c59 := n_umb l G (T0 := T0 ++ [.inl (6, [rf (S + 1), rf (S + 5), nu, rf (S + 6), nu]), .inl (2, [rf (S + 1 + 1), rf (S + 1 + 2), rf (S + 1 + 3), nu, nu, nu]), ia 16, ia 16, ia 16, .inr (.inr (2, [some (S + 7), none, none, none, none, none, none, none])), ia 10, .inl (4, [nu, nu, nu, nu, nu, nu, nu, nu])]) (S := S + 8) hA59 (st2 (st2 (stI (σ) (S + 1)) (S + 0) 2 0) (S + 0) 4 1)
  rw [List.append_assoc] at c59
  try rw [List.append_assoc] at c59
  refine u_cJ (pc := 59) (As := []) (mc := 0) (ms := 0) B JX6_35 c59 (by decide) rfl (by rw [List.length_append, hS]; rfl) (by rw [hH]; unfold ad; omega) (by omega) (by rw [hC]; exact Nat.le_of_ble_eq_true rfl) (by rw [hN]; exact Nat.le_of_ble_eq_true rfl) (Nat.le_of_ble_eq_true rfl) dX6_init_59 rfl ?_
  have B := B.mv (k' := 8) (n' := 88) (by rw [hC]; exact Nat.le_of_ble_eq_true rfl) (by rw [hN]; exact Nat.le_of_ble_eq_true rfl)
  show V (cx X 8 88) G (T0 ++ [.inl (6, [rf (S + 1), rf (S + 5), nu, rf (S + 6), nu]), .inl (2, [rf (S + 1 + 1), rf (S + 1 + 2), rf (S + 1 + 3), nu, nu, nu]), ia 16, ia 16, ia 16, .inr (.inr (2, [some (S + 7), none, none, none, none, none, none, none])), ia 10, .inl (4, [nu, nu, nu, nu, nu, nu, nu, nu]), .inl (4, [nu, nu, nu, nu, nu, nu, nu, nu])]) _ _ _ _
  refine u_aast (pc := 62) (m := 5) (q := 8) (c := 2) (ci := 4) (r := (RX4, TX4, 8)) (loc' := [.inl (6, [rf (S + 1), rf (S + 5), nu, rf (S + 6), nu]), .inl (2, [rf (S + 1 + 1), rf (S + 1 + 2), rf (S + 1 + 3), nu, nu, nu]), ia 16, ia 16, ia 16, .inr (.inr (2, [some (S + 7), some (S + 8), none, none, none, none, none, none])), ia 10, .inl (4, [nu, nu, nu, nu, nu, nu, nu, nu]), .inl (4, [nu, nu, nu, nu, nu, nu, nu, nu])]) B hS rfl rfl rfl rfl (ix_of 1 rfl) rfl dX6_init_62 ?_
  refine r_iinc_1 (pc := 63) (y := _ + 1) B dX6_init_63 rfl (by decide) rfl ?_
  refine r_goto (pc := 66) B 44 dX6_init_66 (by decide) ?_
  refine r_iload_n (pc := 44) B dX6_init_44 rfl ?_
  refine r_bipush (pc := 45) (x := 8) B dX6_init_45 (by decide) ?_
  refine r_icmp_ge (pc := 47) B 69 dX6_init_47 (by decide) (fun hh => absurd hh (by decide)) (fun hh => ?_)
  refine r_aload_n (pc := 50) B dX6_init_50 rfl ?_
  refine r_getr (pc := 51) (k := S + 0) (j := S + 5) B FX6_20 (shAt hS rfl) rfl dX6_init_51 ?_
  refine r_iload_n (pc := 54) B dX6_init_54 rfl ?_
  refine u_new (pc := 55) (m := 9) (loc' := [.inl (6, [rf (S + 1), rf (S + 5), nu, rf (S + 6), nu]), .inl (2, [rf (S + 1 + 1), rf (S + 1 + 2), rf (S + 1 + 3), nu, nu, nu]), ia 16, ia 16, ia 16, .inr (.inr (2, [some (S + 7), some (S + 8), none, none, none, none, none, none])), ia 10, .inl (4, [nu, nu, nu, nu, nu, nu, nu, nu]), .inl (4, [nu, nu, nu, nu, nu, nu, nu, nu]), .inl (4, [nu, nu, nu, nu, nu, nu, nu, nu])]) B hS rfl (by rw [hH]; unfold ad; omega) (by omega) tyX4 (ci := 4) (fs := [nu, nu, nu, nu, nu, nu, nu, nu]) (C := RX4) (Tt := TX4) (N := 8) rfl inG4 tyX4_ok q77 q79 q5 (df4 G) (fun i => z3 _ (by omega) i) (by rw [hC]; exact Nat.le_of_ble_eq_true rfl) (by rw [hN]; exact Nat.le_of_ble_eq_true rfl) rfl dX6_init_55 ?_
  have B := B.mv (k' := 9) (n' := 96) (by rw [hC]; exact Nat.le_of_ble_eq_true rfl) (by rw [hN]; exact Nat.le_of_ble_eq_true rfl)
  refine r_dup (pc := 58) B rfl dX6_init_58 ?_
  have hA59 : (T0 ++ ([.inl (6, [rf (S + 1), rf (S + 5), nu, rf (S + 6), nu]), .inl (2, [rf (S + 1 + 1), rf (S + 1 + 2), rf (S + 1 + 3), nu, nu, nu]), ia 16, ia 16, ia 16, .inr (.inr (2, [some (S + 7), some (S + 8), none, none, none, none, none, none])), ia 10, .inl (4, [nu, nu, nu, nu, nu, nu, nu, nu]), .inl (4, [nu, nu, nu, nu, nu, nu, nu, nu])] : List Sh)).length = S + 9 := by rw [List.length_append, hS]; rfl
  have c59 := n_umb l G (T0 := T0 ++ [.inl (6, [rf (S + 1), rf (S + 5), nu, rf (S + 6), nu]), .inl (2, [rf (S + 1 + 1), rf (S + 1 + 2), rf (S + 1 + 3), nu, nu, nu]), ia 16, ia 16, ia 16, .inr (.inr (2, [some (S + 7), some (S + 8), none, none, none, none, none, none])), ia 10, .inl (4, [nu, nu, nu, nu, nu, nu, nu, nu]), .inl (4, [nu, nu, nu, nu, nu, nu, nu, nu])]) (S := S + 9) hA59 (st2 (st2 (stI (σ) (S + 1)) (S + 0) 2 0) (S + 0) 4 1)
  rw [List.append_assoc] at c59
  try rw [List.append_assoc] at c59
  refine u_cJ (pc := 59) (As := []) (mc := 0) (ms := 0) B JX6_35 c59 (by decide) rfl (by rw [List.length_append, hS]; rfl) (by rw [hH]; unfold ad; omega) (by omega) (by rw [hC]; exact Nat.le_of_ble_eq_true rfl) (by rw [hN]; exact Nat.le_of_ble_eq_true rfl) (Nat.le_of_ble_eq_true rfl) dX6_init_59 rfl ?_
  have B := B.mv (k' := 9) (n' := 96) (by rw [hC]; exact Nat.le_of_ble_eq_true rfl) (by rw [hN]; exact Nat.le_of_ble_eq_true rfl)
  show V (cx X 9 96) G (T0 ++ [.inl (6, [rf (S + 1), rf (S + 5), nu, rf (S + 6), nu]), .inl (2, [rf (S + 1 + 1), rf (S + 1 + 2), rf (S + 1 + 3), nu, nu, nu]), ia 16, ia 16, ia 16, .inr (.inr (2, [some (S + 7), some (S + 8), none, none, none, none, none, none])), ia 10, .inl (4, [nu, nu, nu, nu, nu, nu, nu, nu]), .inl (4, [nu, nu, nu, nu, nu, nu, nu, nu]), .inl (4, [nu, nu, nu, nu, nu, nu, nu, nu])]) _ _ _ _
  refine u_aast (pc := 62) (m := 5) (q := 9) (c := 2) (ci := 4) (r := (RX4, TX4, 8)) (loc' := [.inl (6, [rf (S + 1), rf (S + 5), nu, rf (S + 6), nu]), .inl (2, [rf (S + 1 + 1), rf (S + 1 + 2), rf (S + 1 + 3), nu, nu, nu]), ia 16, ia 16, ia 16, .inr (.inr (2, [some (S + 7), some (S + 8), some (S + 9), none, none, none, none, none])), ia 10, .inl (4, [nu, nu, nu, nu, nu, nu, nu, nu]), .inl (4, [nu, nu, nu, nu, nu, nu, nu, nu]), .inl (4, [nu, nu, nu, nu, nu, nu, nu, nu])]) B hS rfl rfl rfl rfl (ix_of 2 rfl) rfl dX6_init_62 ?_
  refine r_iinc_1 (pc := 63) (y := _ + 1) B dX6_init_63 rfl (by decide) rfl ?_
  refine r_goto (pc := 66) B 44 dX6_init_66 (by decide) ?_
  refine r_iload_n (pc := 44) B dX6_init_44 rfl ?_
  refine r_bipush (pc := 45) (x := 8) B dX6_init_45 (by decide) ?_
  refine r_icmp_ge (pc := 47) B 69 dX6_init_47 (by decide) (fun hh => absurd hh (by decide)) (fun hh => ?_)
  refine r_aload_n (pc := 50) B dX6_init_50 rfl ?_
  refine r_getr (pc := 51) (k := S + 0) (j := S + 5) B FX6_20 (shAt hS rfl) rfl dX6_init_51 ?_
  refine r_iload_n (pc := 54) B dX6_init_54 rfl ?_
  refine u_new (pc := 55) (m := 10) (loc' := [.inl (6, [rf (S + 1), rf (S + 5), nu, rf (S + 6), nu]), .inl (2, [rf (S + 1 + 1), rf (S + 1 + 2), rf (S + 1 + 3), nu, nu, nu]), ia 16, ia 16, ia 16, .inr (.inr (2, [some (S + 7), some (S + 8), some (S + 9), none, none, none, none, none])), ia 10, .inl (4, [nu, nu, nu, nu, nu, nu, nu, nu]), .inl (4, [nu, nu, nu, nu, nu, nu, nu, nu]), .inl (4, [nu, nu, nu, nu, nu, nu, nu, nu]), .inl (4, [nu, nu, nu, nu, nu, nu, nu, nu])]) B hS rfl (by rw [hH]; unfold ad; omega) (by omega) tyX4 (ci := 4) (fs := [nu, nu, nu, nu, nu, nu, nu, nu]) (C := RX4) (Tt := TX4) (N := 8) rfl inG4 tyX4_ok q77 q79 q5 (df4 G) (fun i => z3 _ (by omega) i) (by rw [hC]; exact Nat.le_of_ble_eq_true rfl) (by rw [hN]; exact Nat.le_of_ble_eq_true rfl) rfl dX6_init_55 ?_
  have B := B.mv (k' := 10) (n' := 104) (by rw [hC]; exact Nat.le_of_ble_eq_true rfl) (by rw [hN]; exact Nat.le_of_ble_eq_true rfl)
  refine r_dup (pc := 58) B rfl dX6_init_58 ?_
  have hA59 : (T0 ++ ([.inl (6, [rf (S + 1), rf (S + 5), nu, rf (S + 6), nu]), .inl (2, [rf (S + 1 + 1), rf (S + 1 + 2), rf (S + 1 + 3), nu, nu, nu]), ia 16, ia 16, ia 16, .inr (.inr (2, [some (S + 7), some (S + 8), some (S + 9), none, none, none, none, none])), ia 10, .inl (4, [nu, nu, nu, nu, nu, nu, nu, nu]), .inl (4, [nu, nu, nu, nu, nu, nu, nu, nu]), .inl (4, [nu, nu, nu, nu, nu, nu, nu, nu])] : List Sh)).length = S + 10 := by rw [List.length_append, hS]; rfl
  have c59 := n_umb l G (T0 := T0 ++ [.inl (6, [rf (S + 1), rf (S + 5), nu, rf (S + 6), nu]), .inl (2, [rf (S + 1 + 1), rf (S + 1 + 2), rf (S + 1 + 3), nu, nu, nu]), ia 16, ia 16, ia 16, .inr (.inr (2, [some (S + 7), some (S + 8), some (S + 9), none, none, none, none, none])), ia 10, .inl (4, [nu, nu, nu, nu, nu, nu, nu, nu]), .inl (4, [nu, nu, nu, nu, nu, nu, nu, nu]), .inl (4, [nu, nu, nu, nu, nu, nu, nu, nu])]) (S := S + 10) hA59 (st2 (st2 (stI (σ) (S + 1)) (S + 0) 2 0) (S + 0) 4 1)
  rw [List.append_assoc] at c59
  try rw [List.append_assoc] at c59
  refine u_cJ (pc := 59) (As := []) (mc := 0) (ms := 0) B JX6_35 c59 (by decide) rfl (by rw [List.length_append, hS]; rfl) (by rw [hH]; unfold ad; omega) (by omega) (by rw [hC]; exact Nat.le_of_ble_eq_true rfl) (by rw [hN]; exact Nat.le_of_ble_eq_true rfl) (Nat.le_of_ble_eq_true rfl) dX6_init_59 rfl ?_
  have B := B.mv (k' := 10) (n' := 104) (by rw [hC]; exact Nat.le_of_ble_eq_true rfl) (by rw [hN]; exact Nat.le_of_ble_eq_true rfl)
  show V (cx X 10 104) G (T0 ++ [.inl (6, [rf (S + 1), rf (S + 5), nu, rf (S + 6), nu]), .inl (2, [rf (S + 1 + 1), rf (S + 1 + 2), rf (S + 1 + 3), nu, nu, nu]), ia 16, ia 16, ia 16, .inr (.inr (2, [some (S + 7), some (S + 8), some (S + 9), none, none, none, none, none])), ia 10, .inl (4, [nu, nu, nu, nu, nu, nu, nu, nu]), .inl (4, [nu, nu, nu, nu, nu, nu, nu, nu]), .inl (4, [nu, nu, nu, nu, nu, nu, nu, nu]), .inl (4, [nu, nu, nu, nu, nu, nu, nu, nu])]) _ _ _ _
  refine u_aast (pc := 62) (m := 5) (q := 10) (c := 2) (ci := 4) (r := (RX4, TX4, 8)) (loc' := [.inl (6, [rf (S + 1), rf (S + 5), nu, rf (S + 6), nu]), .inl (2, [rf (S + 1 + 1), rf (S + 1 + 2), rf (S + 1 + 3), nu, nu, nu]), ia 16, ia 16, ia 16, .inr (.inr (2, [some (S + 7), some (S + 8), some (S + 9), some (S + 10), none, none, none, none])), ia 10, .inl (4, [nu, nu, nu, nu, nu, nu, nu, nu]), .inl (4, [nu, nu, nu, nu, nu, nu, nu, nu]), .inl (4, [nu, nu, nu, nu, nu, nu, nu, nu]), .inl (4, [nu, nu, nu, nu, nu, nu, nu, nu])]) B hS rfl rfl rfl rfl (ix_of 3 rfl) rfl dX6_init_62 ?_
  refine r_iinc_1 (pc := 63) (y := _ + 1) B dX6_init_63 rfl (by decide) rfl ?_
  refine r_goto (pc := 66) B 44 dX6_init_66 (by decide) ?_
  refine r_iload_n (pc := 44) B dX6_init_44 rfl ?_
  refine r_bipush (pc := 45) (x := 8) B dX6_init_45 (by decide) ?_
  refine r_icmp_ge (pc := 47) B 69 dX6_init_47 (by decide) (fun hh => absurd hh (by decide)) (fun hh => ?_)
  refine r_aload_n (pc := 50) B dX6_init_50 rfl ?_
  refine r_getr (pc := 51) (k := S + 0) (j := S + 5) B FX6_20 (shAt hS rfl) rfl dX6_init_51 ?_
  refine r_iload_n (pc := 54) B dX6_init_54 rfl ?_
  refine u_new (pc := 55) (m := 11) (loc' := [.inl (6, [rf (S + 1), rf (S + 5), nu, rf (S + 6), nu]), .inl (2, [rf (S + 1 + 1), rf (S + 1 + 2), rf (S + 1 + 3), nu, nu, nu]), ia 16, ia 16, ia 16, .inr (.inr (2, [some (S + 7), some (S + 8), some (S + 9), some (S + 10), none, none, none, none])), ia 10, .inl (4, [nu, nu, nu, nu, nu, nu, nu, nu]), .inl (4, [nu, nu, nu, nu, nu, nu, nu, nu]), .inl (4, [nu, nu, nu, nu, nu, nu, nu, nu]), .inl (4, [nu, nu, nu, nu, nu, nu, nu, nu]), .inl (4, [nu, nu, nu, nu, nu, nu, nu, nu])]) B hS rfl (by rw [hH]; unfold ad; omega) (by omega) tyX4 (ci := 4) (fs := [nu, nu, nu, nu, nu, nu, nu, nu]) (C := RX4) (Tt := TX4) (N := 8) rfl inG4 tyX4_ok q77 q79 q5 (df4 G) (fun i => z3 _ (by omega) i) (by rw [hC]; exact Nat.le_of_ble_eq_true rfl) (by rw [hN]; exact Nat.le_of_ble_eq_true rfl) rfl dX6_init_55 ?_
  have B := B.mv (k' := 11) (n' := 112) (by rw [hC]; exact Nat.le_of_ble_eq_true rfl) (by rw [hN]; exact Nat.le_of_ble_eq_true rfl)
  refine r_dup (pc := 58) B rfl dX6_init_58 ?_
  have hA59 : (T0 ++ ([.inl (6, [rf (S + 1), rf (S + 5), nu, rf (S + 6), nu]), .inl (2, [rf (S + 1 + 1), rf (S + 1 + 2), rf (S + 1 + 3), nu, nu, nu]), ia 16, ia 16, ia 16, .inr (.inr (2, [some (S + 7), some (S + 8), some (S + 9), some (S + 10), none, none, none, none])), ia 10, .inl (4, [nu, nu, nu, nu, nu, nu, nu, nu]), .inl (4, [nu, nu, nu, nu, nu, nu, nu, nu]), .inl (4, [nu, nu, nu, nu, nu, nu, nu, nu]), .inl (4, [nu, nu, nu, nu, nu, nu, nu, nu])] : List Sh)).length = S + 11 := by rw [List.length_append, hS]; rfl
  have c59 := n_umb l G (T0 := T0 ++ [.inl (6, [rf (S + 1), rf (S + 5), nu, rf (S + 6), nu]), .inl (2, [rf (S + 1 + 1), rf (S + 1 + 2), rf (S + 1 + 3), nu, nu, nu]), ia 16, ia 16, ia 16, .inr (.inr (2, [some (S + 7), some (S + 8), some (S + 9), some (S + 10), none, none, none, none])), ia 10, .inl (4, [nu, nu, nu, nu, nu, nu, nu, nu]), .inl (4, [nu, nu, nu, nu, nu, nu, nu, nu]), .inl (4, [nu, nu, nu, nu, nu, nu, nu, nu]), .inl (4, [nu, nu, nu, nu, nu, nu, nu, nu])]) (S := S + 11) hA59 (st2 (st2 (stI (σ) (S + 1)) (S + 0) 2 0) (S + 0) 4 1)
  rw [List.append_assoc] at c59
  try rw [List.append_assoc] at c59
  refine u_cJ (pc := 59) (As := []) (mc := 0) (ms := 0) B JX6_35 c59 (by decide) rfl (by rw [List.length_append, hS]; rfl) (by rw [hH]; unfold ad; omega) (by omega) (by rw [hC]; exact Nat.le_of_ble_eq_true rfl) (by rw [hN]; exact Nat.le_of_ble_eq_true rfl) (Nat.le_of_ble_eq_true rfl) dX6_init_59 rfl ?_
  have B := B.mv (k' := 11) (n' := 112) (by rw [hC]; exact Nat.le_of_ble_eq_true rfl) (by rw [hN]; exact Nat.le_of_ble_eq_true rfl)
  show V (cx X 11 112) G (T0 ++ [.inl (6, [rf (S + 1), rf (S + 5), nu, rf (S + 6), nu]), .inl (2, [rf (S + 1 + 1), rf (S + 1 + 2), rf (S + 1 + 3), nu, nu, nu]), ia 16, ia 16, ia 16, .inr (.inr (2, [some (S + 7), some (S + 8), some (S + 9), some (S + 10), none, none, none, none])), ia 10, .inl (4, [nu, nu, nu, nu, nu, nu, nu, nu]), .inl (4, [nu, nu, nu, nu, nu, nu, nu, nu]), .inl (4, [nu, nu, nu, nu, nu, nu, nu, nu]), .inl (4, [nu, nu, nu, nu, nu, nu, nu, nu]), .inl (4, [nu, nu, nu, nu, nu, nu, nu, nu])]) _ _ _ _
  refine u_aast (pc := 62) (m := 5) (q := 11) (c := 2) (ci := 4) (r := (RX4, TX4, 8)) (loc' := [.inl (6, [rf (S + 1), rf (S + 5), nu, rf (S + 6), nu]), .inl (2, [rf (S + 1 + 1), rf (S + 1 + 2), rf (S + 1 + 3), nu, nu, nu]), ia 16, ia 16, ia 16, .inr (.inr (2, [some (S + 7), some (S + 8), some (S + 9), some (S + 10), some (S + 11), none, none, none])), ia 10, .inl (4, [nu, nu, nu, nu, nu, nu, nu, nu]), .inl (4, [nu, nu, nu, nu, nu, nu, nu, nu]), .inl (4, [nu, nu, nu, nu, nu, nu, nu, nu]), .inl (4, [nu, nu, nu, nu, nu, nu, nu, nu]), .inl (4, [nu, nu, nu, nu, nu, nu, nu, nu])]) B hS rfl rfl rfl rfl (ix_of 4 rfl) rfl dX6_init_62 ?_
  refine r_iinc_1 (pc := 63) (y := _ + 1) B dX6_init_63 rfl (by decide) rfl ?_
  refine r_goto (pc := 66) B 44 dX6_init_66 (by decide) ?_
  refine r_iload_n (pc := 44) B dX6_init_44 rfl ?_
  refine r_bipush (pc := 45) (x := 8) B dX6_init_45 (by decide) ?_
  refine r_icmp_ge (pc := 47) B 69 dX6_init_47 (by decide) (fun hh => absurd hh (by decide)) (fun hh => ?_)
  refine r_aload_n (pc := 50) B dX6_init_50 rfl ?_
  refine r_getr (pc := 51) (k := S + 0) (j := S + 5) B FX6_20 (shAt hS rfl) rfl dX6_init_51 ?_
  refine r_iload_n (pc := 54) B dX6_init_54 rfl ?_
  refine u_new (pc := 55) (m := 12) (loc' := [.inl (6, [rf (S + 1), rf (S + 5), nu, rf (S + 6), nu]), .inl (2, [rf (S + 1 + 1), rf (S + 1 + 2), rf (S + 1 + 3), nu, nu, nu]), ia 16, ia 16, ia 16, .inr (.inr (2, [some (S + 7), some (S + 8), some (S + 9), some (S + 10), some (S + 11), none, none, none])), ia 10, .inl (4, [nu, nu, nu, nu, nu, nu, nu, nu]), .inl (4, [nu, nu, nu, nu, nu, nu, nu, nu]), .inl (4, [nu, nu, nu, nu, nu, nu, nu, nu]), .inl (4, [nu, nu, nu, nu, nu, nu, nu, nu]), .inl (4, [nu, nu, nu, nu, nu, nu, nu, nu]), .inl (4, [nu, nu, nu, nu, nu, nu, nu, nu])]) B hS rfl (by rw [hH]; unfold ad; omega) (by omega) tyX4 (ci := 4) (fs := [nu, nu, nu, nu, nu, nu, nu, nu]) (C := RX4) (Tt := TX4) (N := 8) rfl inG4 tyX4_ok q77 q79 q5 (df4 G) (fun i => z3 _ (by omega) i) (by rw [hC]; exact Nat.le_of_ble_eq_true rfl) (by rw [hN]; exact Nat.le_of_ble_eq_true rfl) rfl dX6_init_55 ?_
  have B := B.mv (k' := 12) (n' := 120) (by rw [hC]; exact Nat.le_of_ble_eq_true rfl) (by rw [hN]; exact Nat.le_of_ble_eq_true rfl)
  refine r_dup (pc := 58) B rfl dX6_init_58 ?_
  have hA59 : (T0 ++ ([.inl (6, [rf (S + 1), rf (S + 5), nu, rf (S + 6), nu]), .inl (2, [rf (S + 1 + 1), rf (S + 1 + 2), rf (S + 1 + 3), nu, nu, nu]), ia 16, ia 16, ia 16, .inr (.inr (2, [some (S + 7), some (S + 8), some (S + 9), some (S + 10), some (S + 11), none, none, none])), ia 10, .inl (4, [nu, nu, nu, nu, nu, nu, nu, nu]), .inl (4, [nu, nu, nu, nu, nu, nu, nu, nu]), .inl (4, [nu, nu, nu, nu, nu, nu, nu, nu]), .inl (4, [nu, nu, nu, nu, nu, nu, nu, nu]), .inl (4, [nu, nu, nu, nu, nu, nu, nu, nu])] : List Sh)).length = S + 12 := by rw [List.length_append, hS]; rfl
  have c59 := n_umb l G (T0 := T0 ++ [.inl (6, [rf (S + 1), rf (S + 5), nu, rf (S + 6), nu]), .inl (2, [rf (S + 1 + 1), rf (S + 1 + 2), rf (S + 1 + 3), nu, nu, nu]), ia 16, ia 16, ia 16, .inr (.inr (2, [some (S + 7), some (S + 8), some (S + 9), some (S + 10), some (S + 11), none, none, none])), ia 10, .inl (4, [nu, nu, nu, nu, nu, nu, nu, nu]), .inl (4, [nu, nu, nu, nu, nu, nu, nu, nu]), .inl (4, [nu, nu, nu, nu, nu, nu, nu, nu]), .inl (4, [nu, nu, nu, nu, nu, nu, nu, nu]), .inl (4, [nu, nu, nu, nu, nu, nu, nu, nu])]) (S := S + 12) hA59 (st2 (st2 (stI (σ) (S + 1)) (S + 0) 2 0) (S + 0) 4 1)
  rw [List.append_assoc] at c59
  try rw [List.append_assoc] at c59
  refine u_cJ (pc := 59) (As := []) (mc := 0) (ms := 0) B JX6_35 c59 (by decide) rfl (by rw [List.length_append, hS]; rfl) (by rw [hH]; unfold ad; omega) (by omega) (by rw [hC]; exact Nat.le_of_ble_eq_true rfl) (by rw [hN]; exact Nat.le_of_ble_eq_true rfl) (Nat.le_of_ble_eq_true rfl) dX6_init_59 rfl ?_
  have B := B.mv (k' := 12) (n' := 120) (by rw [hC]; exact Nat.le_of_ble_eq_true rfl) (by rw [hN]; exact Nat.le_of_ble_eq_true rfl)
  show V (cx X 12 120) G (T0 ++ [.inl (6, [rf (S + 1), rf (S + 5), nu, rf (S + 6), nu]), .inl (2, [rf (S + 1 + 1), rf (S + 1 + 2), rf (S + 1 + 3), nu, nu, nu]), ia 16, ia 16, ia 16, .inr (.inr (2, [some (S + 7), some (S + 8), some (S + 9), some (S + 10), some (S + 11), none, none, none])), ia 10, .inl (4, [nu, nu, nu, nu, nu, nu, nu, nu]), .inl (4, [nu, nu, nu, nu, nu, nu, nu, nu]), .inl (4, [nu, nu, nu, nu, nu, nu, nu, nu]), .inl (4, [nu, nu, nu, nu, nu, nu, nu, nu]), .inl (4, [nu, nu, nu, nu, nu, nu, nu, nu]), .inl (4, [nu, nu, nu, nu, nu, nu, nu, nu])]) _ _ _ _
  refine u_aast (pc := 62) (m := 5) (q := 12) (c := 2) (ci := 4) (r := (RX4, TX4, 8)) (loc' := [.inl (6, [rf (S + 1), rf (S + 5), nu, rf (S + 6), nu]), .inl (2, [rf (S + 1 + 1), rf (S + 1 + 2), rf (S + 1 + 3), nu, nu, nu]), ia 16, ia 16, ia 16, .inr (.inr (2, [some (S + 7), some (S + 8), some (S + 9), some (S + 10), some (S + 11), some (S + 12), none, none])), ia 10, .inl (4, [nu, nu, nu, nu, nu, nu, nu, nu]), .inl (4, [nu, nu, nu, nu, nu, nu, nu, nu]), .inl (4, [nu, nu, nu, nu, nu, nu, nu, nu]), .inl (4, [nu, nu, nu, nu, nu, nu, nu, nu]), .inl (4, [nu, nu, nu, nu, nu, nu, nu, nu]), .inl (4, [nu, nu, nu, nu, nu, nu, nu, nu])]) B hS rfl rfl rfl rfl (ix_of 5 rfl) rfl dX6_init_62 ?_
  refine r_iinc_1 (pc := 63) (y := _ + 1) B dX6_init_63 rfl (by decide) rfl ?_
  refine r_goto (pc := 66) B 44 dX6_init_66 (by decide) ?_
  refine r_iload_n (pc := 44) B dX6_init_44 rfl ?_
  refine r_bipush (pc := 45) (x := 8) B dX6_init_45 (by decide) ?_
  refine r_icmp_ge (pc := 47) B 69 dX6_init_47 (by decide) (fun hh => absurd hh (by decide)) (fun hh => ?_)
  refine r_aload_n (pc := 50) B dX6_init_50 rfl ?_
  refine r_getr (pc := 51) (k := S + 0) (j := S + 5) B FX6_20 (shAt hS rfl) rfl dX6_init_51 ?_
  refine r_iload_n (pc := 54) B dX6_init_54 rfl ?_
  refine u_new (pc := 55) (m := 13) (loc' := [.inl (6, [rf (S + 1), rf (S + 5), nu, rf (S + 6), nu]), .inl (2, [rf (S + 1 + 1), rf (S + 1 + 2), rf (S + 1 + 3), nu, nu, nu]), ia 16, ia 16, ia 16, .inr (.inr (2, [some (S + 7), some (S + 8), some (S + 9), some (S + 10), some (S + 11), some (S + 12), none, none])), ia 10, .inl (4, [nu, nu, nu, nu, nu, nu, nu, nu]), .inl (4, [nu, nu, nu, nu, nu, nu, nu, nu]), .inl (4, [nu, nu, nu, nu, nu, nu, nu, nu]), .inl (4, [nu, nu, nu, nu, nu, nu, nu, nu]), .inl (4, [nu, nu, nu, nu, nu, nu, nu, nu]), .inl (4, [nu, nu, nu, nu, nu, nu, nu, nu]), .inl (4, [nu, nu, nu, nu, nu, nu, nu, nu])]) B hS rfl (by rw [hH]; unfold ad; omega) (by omega) tyX4 (ci := 4) (fs := [nu, nu, nu, nu, nu, nu, nu, nu]) (C := RX4) (Tt := TX4) (N := 8) rfl inG4 tyX4_ok q77 q79 q5 (df4 G) (fun i => z3 _ (by omega) i) (by rw [hC]; exact Nat.le_of_ble_eq_true rfl) (by rw [hN]; exact Nat.le_of_ble_eq_true rfl) rfl dX6_init_55 ?_
  have B := B.mv (k' := 13) (n' := 128) (by rw [hC]; exact Nat.le_of_ble_eq_true rfl) (by rw [hN]; exact Nat.le_of_ble_eq_true rfl)
  refine r_dup (pc := 58) B rfl dX6_init_58 ?_
  have hA59 : (T0 ++ ([.inl (6, [rf (S + 1), rf (S + 5), nu, rf (S + 6), nu]), .inl (2, [rf (S + 1 + 1), rf (S + 1 + 2), rf (S + 1 + 3), nu, nu, nu]), ia 16, ia 16, ia 16, .inr (.inr (2, [some (S + 7), some (S + 8), some (S + 9), some (S + 10), some (S + 11), some (S + 12), none, none])), ia 10, .inl (4, [nu, nu, nu, nu, nu, nu, nu, nu]), .inl (4, [nu, nu, nu, nu, nu, nu, nu, nu]), .inl (4, [nu, nu, nu, nu, nu, nu, nu, nu]), .inl (4, [nu, nu, nu, nu, nu, nu, nu, nu]), .inl (4, [nu, nu, nu, nu, nu, nu, nu, nu]), .inl (4, [nu, nu, nu, nu, nu, nu, nu, nu])] : List Sh)).length = S + 13 := by rw [List.length_append, hS]; rfl
  have c59 := n_umb l G (T0 := T0 ++ [.inl (6, [rf (S + 1), rf (S + 5), nu, rf (S + 6), nu]), .inl (2, [rf (S + 1 + 1), rf (S + 1 + 2), rf (S + 1 + 3), nu, nu, nu]), ia 16, ia 16, ia 16, .inr (.inr (2, [some (S + 7), some (S + 8), some (S + 9), some (S + 10), some (S + 11), some (S + 12), none, none])), ia 10, .inl (4, [nu, nu, nu, nu, nu, nu, nu, nu]), .inl (4, [nu, nu, nu, nu, nu, nu, nu, nu]), .inl (4, [nu, nu, nu, nu, nu, nu, nu, nu]), .inl (4, [nu, nu, nu, nu, nu, nu, nu, nu]), .inl (4, [nu, nu, nu, nu, nu, nu, nu, nu]), .inl (4, [nu, nu, nu, nu, nu, nu, nu, nu])]) (S := S + 13) hA59 (st2 (st2 (stI (σ) (S + 1)) (S + 0) 2 0) (S + 0) 4 1)
  rw [List.append_assoc] at c59
  try rw [List.append_assoc] at c59
  refine u_cJ (pc := 59) (As := []) (mc := 0) (ms := 0) B JX6_35 c59 (by decide) rfl (by rw [List.length_append, hS]; rfl) (by rw [hH]; unfold ad; omega) (by omega) (by rw [hC]; exact Nat.le_of_ble_eq_true rfl) (by rw [hN]; exact Nat.le_of_ble_eq_true rfl) (Nat.le_of_ble_eq_true rfl) dX6_init_59 rfl ?_
  have B := B.mv (k' := 13) (n' := 128) (by rw [hC]; exact Nat.le_of_ble_eq_true rfl) (by rw [hN]; exact Nat.le_of_ble_eq_true rfl)
  show V (cx X 13 128) G (T0 ++ [.inl (6, [rf (S + 1), rf (S + 5), nu, rf (S + 6), nu]), .inl (2, [rf (S + 1 + 1), rf (S + 1 + 2), rf (S + 1 + 3), nu, nu, nu]), ia 16, ia 16, ia 16, .inr (.inr (2, [some (S + 7), some (S + 8), some (S + 9), some (S + 10), some (S + 11), some (S + 12), none, none])), ia 10, .inl (4, [nu, nu, nu, nu, nu, nu, nu, nu]), .inl (4, [nu, nu, nu, nu, nu, nu, nu, nu]), .inl (4, [nu, nu, nu, nu, nu, nu, nu, nu]), .inl (4, [nu, nu, nu, nu, nu, nu, nu, nu]), .inl (4, [nu, nu, nu, nu, nu, nu, nu, nu]), .inl (4, [nu, nu, nu, nu, nu, nu, nu, nu]), .inl (4, [nu, nu, nu, nu, nu, nu, nu, nu])]) _ _ _ _
  refine u_aast (pc := 62) (m := 5) (q := 13) (c := 2) (ci := 4) (r := (RX4, TX4, 8)) (loc' := [.inl (6, [rf (S + 1), rf (S + 5), nu, rf (S + 6), nu]), .inl (2, [rf (S + 1 + 1), rf (S + 1 + 2), rf (S + 1 + 3), nu, nu, nu]), ia 16, ia 16, ia 16, .inr (.inr (2, [some (S + 7), some (S + 8), some (S + 9), some (S + 10), some (S + 11), some (S + 12), some (S + 13), none])), ia 10, .inl (4, [nu, nu, nu, nu, nu, nu, nu, nu]), .inl (4, [nu, nu, nu, nu, nu, nu, nu, nu]), .inl (4, [nu, nu, nu, nu, nu, nu, nu, nu]), .inl (4, [nu, nu, nu, nu, nu, nu, nu, nu]), .inl (4, [nu, nu, nu, nu, nu, nu, nu, nu]), .inl (4, [nu, nu, nu, nu, nu, nu, nu, nu]), .inl (4, [nu, nu, nu, nu, nu, nu, nu, nu])]) B hS rfl rfl rfl rfl (ix_of 6 rfl) rfl dX6_init_62 ?_
  refine r_iinc_1 (pc := 63) (y := _ + 1) B dX6_init_63 rfl (by decide) rfl ?_
  refine r_goto (pc := 66) B 44 dX6_init_66 (by decide) ?_
  refine r_iload_n (pc := 44) B dX6_init_44 rfl ?_
  refine r_bipush (pc := 45) (x := 8) B dX6_init_45 (by decide) ?_
  refine r_icmp_ge (pc := 47) B 69 dX6_init_47 (by decide) (fun hh => absurd hh (by decide)) (fun hh => ?_)
  refine r_aload_n (pc := 50) B dX6_init_50 rfl ?_
  refine r_getr (pc := 51) (k := S + 0) (j := S + 5) B FX6_20 (shAt hS rfl) rfl dX6_init_51 ?_
  refine r_iload_n (pc := 54) B dX6_init_54 rfl ?_
  refine u_new (pc := 55) (m := 14) (loc' := [.inl (6, [rf (S + 1), rf (S + 5), nu, rf (S + 6), nu]), .inl (2, [rf (S + 1 + 1), rf (S + 1 + 2), rf (S + 1 + 3), nu, nu, nu]), ia 16, ia 16, ia 16, .inr (.inr (2, [some (S + 7), some (S + 8), some (S + 9), some (S + 10), some (S + 11), some (S + 12), some (S + 13), none])), ia 10, .inl (4, [nu, nu, nu, nu, nu, nu, nu, nu]), .inl (4, [nu, nu, nu, nu, nu, nu, nu, nu]), .inl (4, [nu, nu, nu, nu, nu, nu, nu, nu]), .inl (4, [nu, nu, nu, nu, nu, nu, nu, nu]), .inl (4, [nu, nu, nu, nu, nu, nu, nu, nu]), .inl (4, [nu, nu, nu, nu, nu, nu, nu, nu]), .inl (4, [nu, nu, nu, nu, nu, nu, nu, nu]), .inl (4, [nu, nu, nu, nu, nu, nu, nu, nu])]) B hS rfl (by rw [hH]; unfold ad; omega) (by omega) tyX4 (ci := 4) (fs := [nu, nu, nu, nu, nu, nu, nu, nu]) (C := RX4) (Tt := TX4) (N := 8) rfl inG4 tyX4_ok q77 q79 q5 (df4 G) (fun i => z3 _ (by omega) i) (by rw [hC]; exact Nat.le_of_ble_eq_true rfl) (by rw [hN]; exact Nat.le_of_ble_eq_true rfl) rfl dX6_init_55 ?_
  have B := B.mv (k' := 14) (n' := 136) (by rw [hC]; exact Nat.le_of_ble_eq_true rfl) (by rw [hN]; exact Nat.le_of_ble_eq_true rfl)
  refine r_dup (pc := 58) B rfl dX6_init_58 ?_
  have hA59 : (T0 ++ ([.inl (6, [rf (S + 1), rf (S + 5), nu, rf (S + 6), nu]), .inl (2, [rf (S + 1 + 1), rf (S + 1 + 2), rf (S + 1 + 3), nu, nu, nu]), ia 16, ia 16, ia 16, .inr (.inr (2, [some (S + 7), some (S + 8), some (S + 9), some (S + 10), some (S + 11), some (S + 12), some (S + 13), none])), ia 10, .inl (4, [nu, nu, nu, nu, nu, nu, nu, nu]), .inl (4, [nu, nu, nu, nu, nu, nu, nu, nu]), .inl (4, [nu, nu, nu, nu, nu, nu, nu, nu]), .inl (4, [nu, nu, nu, nu, nu, nu, nu, nu]), .inl (4, [nu, nu, nu, nu, nu, nu, nu, nu]), .inl (4, [nu, nu, nu, nu, nu, nu, nu, nu]), .inl (4, [nu, nu, nu, nu, nu, nu, nu, nu])] : List Sh)).length = S + 14 := by rw [List.length_append, hS]; rfl
  have c59 := n_umb l G (T0 := T0 ++ [.inl (6, [rf (S + 1), rf (S + 5), nu, rf (S + 6), nu]), .inl (2, [rf (S + 1 + 1), rf (S + 1 + 2), rf (S + 1 + 3), nu, nu, nu]), ia 16, ia 16, ia 16, .inr (.inr (2, [some (S + 7), some (S + 8), some (S + 9), some (S + 10), some (S + 11), some (S + 12), some (S + 13), none])), ia 10, .inl (4, [nu, nu, nu, nu, nu, nu, nu, nu]), .inl (4, [nu, nu, nu, nu, nu, nu, nu, nu]), .inl (4, [nu, nu, nu, nu, nu, nu, nu, nu]), .inl (4, [nu, nu, nu, nu, nu, nu, nu, nu]), .inl (4, [nu, nu, nu, nu, nu, nu, nu, nu]), .inl (4, [nu, nu, nu, nu, nu, nu, nu, nu]), .inl (4, [nu, nu, nu, nu, nu, nu, nu, nu])]) (S := S + 14) hA59 (st2 (st2 (stI (σ) (S + 1)) (S + 0) 2 0) (S + 0) 4 1)
  rw [List.append_assoc] at c59
  try rw [List.append_assoc] at c59
  refine u_cJ (pc := 59) (As := []) (mc := 0) (ms := 0) B JX6_35 c59 (by decide) rfl (by rw [List.length_append, hS]; rfl) (by rw [hH]; unfold ad; omega) (by omega) (by rw [hC]; exact Nat.le_of_ble_eq_true rfl) (by rw [hN]; exact Nat.le_of_ble_eq_true rfl) (Nat.le_of_ble_eq_true rfl) dX6_init_59 rfl ?_
  have B := B.mv (k' := 14) (n' := 136) (by rw [hC]; exact Nat.le_of_ble_eq_true rfl) (by rw [hN]; exact Nat.le_of_ble_eq_true rfl)
  show V (cx X 14 136) G (T0 ++ [.inl (6, [rf (S + 1), rf (S + 5), nu, rf (S + 6), nu]), .inl (2, [rf (S + 1 + 1), rf (S + 1 + 2), rf (S + 1 + 3), nu, nu, nu]), ia 16, ia 16, ia 16, .inr (.inr (2, [some (S + 7), some (S + 8), some (S + 9), some (S + 10), some (S + 11), some (S + 12), some (S + 13), none])), ia 10, .inl (4, [nu, nu, nu, nu, nu, nu, nu, nu]), .inl (4, [nu, nu, nu, nu, nu, nu, nu, nu]), .inl (4, [nu, nu, nu, nu, nu, nu, nu, nu]), .inl (4, [nu, nu, nu, nu, nu, nu, nu, nu]), .inl (4, [nu, nu, nu, nu, nu, nu, nu, nu]), .inl (4, [nu, nu, nu, nu, nu, nu, nu, nu]), .inl (4, [nu, nu, nu, nu, nu, nu, nu, nu]), .inl (4, [nu, nu, nu, nu, nu, nu, nu, nu])]) _ _ _ _
  refine u_aast (pc := 62) (m := 5) (q := 14) (c := 2) (ci := 4) (r := (RX4, TX4, 8)) (loc' := [.inl (6, [rf (S + 1), rf (S + 5), nu, rf (S + 6), nu]), .inl (2, [rf (S + 1 + 1), rf (S + 1 + 2), rf (S + 1 + 3), nu, nu, nu]), ia 16, ia 16, ia 16, .inr (.inr (2, [some (S + 7), some (S + 8), some (S + 9), some (S + 10), some (S + 11), some (S + 12), some (S + 13), some (S + 14)])), ia 10, .inl (4, [nu, nu, nu, nu, nu, nu, nu, nu]), .inl (4, [nu, nu, nu, nu, nu, nu, nu, nu]), .inl (4, [nu, nu, nu, nu, nu, nu, nu, nu]), .inl (4, [nu, nu, nu, nu, nu, nu, nu, nu]), .inl (4, [nu, nu, nu, nu, nu, nu, nu, nu]), .inl (4, [nu, nu, nu, nu, nu, nu, nu, nu]), .inl (4, [nu, nu, nu, nu, nu, nu, nu, nu]), .inl (4, [nu, nu, nu, nu, nu, nu, nu, nu])]) B hS rfl rfl rfl rfl (ix_of 7 rfl) rfl dX6_init_62 ?_
  refine r_iinc_1 (pc := 63) (y := _ + 1) B dX6_init_63 rfl (by decide) rfl ?_
  refine r_goto (pc := 66) B 44 dX6_init_66 (by decide) ?_
  refine r_iload_n (pc := 44) B dX6_init_44 rfl ?_
  refine r_bipush (pc := 45) (x := 8) B dX6_init_45 (by decide) ?_
  refine r_icmp_ge (pc := 47) B 69 dX6_init_47 (by decide) (fun hh => ?_) (fun hh => absurd (by decide) hh)
  refine r_aload_n (pc := 69) B dX6_init_69 rfl ?_
  refine r_getr (pc := 70) (k := S + 0) (j := S + 6) B FX6_28 (shAt hS rfl) rfl dX6_init_70 ?_
  refine r_iconst (pc := 73) (x := (-1)) B dX6_init_73 (by decide) ?_
  refine r_cSv2 (pc := 74) B KX6_36 (c_fill l G _ _ (k := S + 6) (N := 10) (shAt hS rfl) (by omega) (-1)) (by decide) (Nat.le_of_ble_eq_true rfl) dX6_init_74 ?_
  have z4 : zz (fillS (st2 (st2 (stI (σ) (S + 1)) (S + 0) 2 0) (S + 0) 4 1) (S + 6) 10 (-1)) (S + 15) := (z3.le (by omega)).fl (by omega)
  exact r_vret (pc := 77) B R dX6_init_77 ⟨rfl, rfl⟩

set_option maxHeartbeats 4000000 in
set_option maxRecDepth 100000 in
theorem c_X3_tell (l : Launch) (D : va_G) (cI cZ cS cJ : ClassId) (n0 : Nat) (n1 : Nat) (n2 : Nat) (n3 : Nat) (S : Nat → Nat → Int32) (z : Nat) (r : Nat) (w : Nat) (hz : S 12 8 = nI z) (hz20 : z ≤ 20) (hr : r < 2147483648) (hw : w < 3) : C0 l yX3_tell wsX3_tell ({ frames := 0, cells := 0, slots := 0, locals := 0 }) D (tyL cI cZ cS cJ) [.ref n0, .int (nI r), .int (nI w)] (List.flatten [ntX cI n0 n1 n2 n3 (S 7) (S 8) (S 9) (S 12 8)]) (some (.int (ntl S z r w))) (List.flatten [ntX cI n0 n1 n2 n3 (S 7) (S 8) (S 9) (S 12 8)]) 0 0 := by
  rcases (show w = 0 ∨ w = 1 ∨ w = 2 by omega) with rfl | rfl | rfl
  · exact c_X3_tell0 l D cI cZ cS cJ n0 n1 n2 n3 S z r hz hz20 hr
  · exact c_X3_tell1 l D cI cZ cS cJ n0 n1 n2 n3 S z r hz hz20 hr
  · exact c_X3_tell2 l D cI cZ cS cJ n0 n1 n2 n3 S z r hz hz20 hr


set_option maxHeartbeats 4000000 in
set_option maxRecDepth 100000 in
theorem c_X6_meanHeight (l : Launch) (D : va_G) (cI cZ cS cJ : ClassId) (x0 : Nat) (p0 : Nat) (q0 : Nat) (t0 : Nat) (k0 : Nat) (f0 : Nat) (w0 : Int32) (a : Nat → Nat) (S : Nat → Nat → Int32) (hG : GB S) (h6 : S 6 = ht S) : C0 l yX6_meanHeight wsX6_meanHeight ({ frames := 1, cells := 0, slots := 0, locals := 22 }) D (tyL cI cZ cS cJ) [.ref x0] (List.flatten [rbC x0 (a 0) p0 q0 t0 k0 f0 w0, stO a (S 12 0) (S 12 1) (S 12 2) (S 12 3) (S 12 4) (S 12 5) (S 12 6) (S 12 7), flX cI cZ (a 1) (a 2) (a 3) (a 4) (a 5) (a 6) (a 7) (a 8) (S 0) (S 1) (S 2) (S 3) (S 4) (S 5) (S 6), ntX cI (a 9) (a 10) (a 11) (a 12) (S 7) (S 8) (S 9) (S 12 8), daX cI (a 13) (a 14) (S 10) (S 11)]) (some (.double (mnD (hsm S)))) (List.flatten [rbC x0 (a 0) p0 q0 t0 k0 f0 w0, stO a (S 12 0) (S 12 1) (S 12 2) (S 12 3) (S 12 4) (S 12 5) (S 12 6) (S 12 7), flX cI cZ (a 1) (a 2) (a 3) (a 4) (a 5) (a 6) (a 7) (a 8) (S 0) (S 1) (S 2) (S 3) (S 4) (S 5) (S 6), ntX cI (a 9) (a 10) (a 11) (a 12) (S 7) (S 8) (S 9) (S 12 8), daX cI (a 13) (a 14) (S 10) (S 11)]) 0 0 := by
  refine C0_double (cc := cX6_meanHeight) (maxL := 1) (by decide) rfl (Nat.le_of_ble_eq_true rfl) ?_
  intro p e s m below meth c A ls Q X hK hP hD hS hA hl hend
  have X : CallFix p m c cX6_meanHeight 1 s ([.ref x0] : List Value).toArray wsX6_meanHeight RX6 := X
  obtain ⟨hx, hb, hml, hown, hts⟩ := id X
  have hl : lv_has ls 1 [(0, .ref x0)] := hl
  have hinX4 : ∀ w ∈ u_ws RX4 TX4 12, w ∈ wsX6_meanHeight := by decide +kernel
  have hinX6 : ∀ w ∈ u_ws RX6 TX6 7, w ∈ wsX6_meanHeight := by decide +kernel
  refine lv_aload_n hx hb dX6_meanHeight_0 rfl (lv_at hl 0 rfl) ?_
  refine va_get (D := D) (ci := 6) (v := .ref (a 0)) (C := RX6) (T := TX6) (N := 7) hx hb hts hinX6 hown hK hP 0 rfl rfl 0 (by decide) (hts (.fieldLink RX6 12 "RibbonBalloons" "now" "LRibbonBalloons$State;") (by decide +kernel)) (fun _ h9 => h9) rfl dX6_meanHeight_1 ?_
  refine va_get (D := D) (ci := 4) (v := .ref (a 1)) (C := RX4) (T := TX4) (N := 12) hx hb hts hinX4 hown hK hP 1 rfl rfl 0 (by decide) (hts (.fieldLink RX6 62 "RibbonBalloons$State" "flock" "LRibbonBalloons$Flock;") (by decide +kernel)) (fun _ h9 => h9) rfl dX6_meanHeight_4 ?_
  refine kcallV (As := []) (rest := []) (Wn := [rbC x0 (a 0) p0 q0 t0 k0 f0 w0, stO a (S 12 0) (S 12 1) (S 12 2) (S 12 3) (S 12 4) (S 12 5) (S 12 6) (S 12 7), flX cI cZ (a 1) (a 2) (a 3) (a 4) (a 5) (a 6) (a 7) (a 8) (S 0) (S 1) (S 2) (S 3) (S 4) (S 5) (S 6), ntX cI (a 9) (a 10) (a 11) (a 12) (S 7) (S 8) (S 9) (S 12 8), daX cI (a 13) (a 14) (S 10) (S 11)]) X (c_X0_allHeights l D cI cZ cS cJ (a 1) (a 2) (a 3) (a 4) (a 5) (a 6) (a 7) (a 8) S) (cwV 0 hts gX6_meanHeight_X0_allHeights rfl rfl rfl (by decide +kernel) ⟨Nat.le_of_ble_eq_true rfl, Nat.le_of_ble_eq_true rfl⟩) hK hP hD hS hA [2] rfl (by decide +kernel) rfl rfl rfl 2 0 rfl rfl rfl hl.1 rfl (Nat.le_of_ble_eq_true rfl) dX6_meanHeight_7 ⟨Nat.le_of_ble_eq_true rfl, Nat.le_of_ble_eq_true rfl⟩ (fun H locs hP hD hS => ?_)
  refine lv_eqi (y := hsm S) (by unfold hsm; rw [← h6]) ?_
  refine lv_i2d hx hb dX6_meanHeight_10 ?_
  refine lv_ldc2d (v := 4620693217682128896) hx hb hown (hts (.constantDouble RX6 259 4620693217682128896) (by decide +kernel)) dX6_meanHeight_11 ?_
  refine lv_ddiv hx hb dX6_meanHeight_14 (okM_of (hsm_in hG)).1 ?_
  refine hend _ _ _ _ _ ?_ hP hD hS dX6_meanHeight_15
  exact rfl

set_option maxHeartbeats 4000000 in
set_option maxRecDepth 100000 in
theorem c_X6_lostShare (l : Launch) (D : va_G) (cI cZ cS cJ : ClassId) (x0 : Nat) (p0 : Nat) (q0 : Nat) (t0 : Nat) (k0 : Nat) (f0 : Nat) (w0 : Int32) (a : Nat → Nat) (S : Nat → Nat → Int32) (hL : vf_n32 (lsF S)) : C0 l yX6_lostShare wsX6_lostShare ({ frames := 0, cells := 0, slots := 0, locals := 0 }) D (tyL cI cZ cS cJ) [.ref x0] (List.flatten [rbC x0 (a 0) p0 q0 t0 k0 f0 w0, stO a (S 12 0) (S 12 1) (S 12 2) (S 12 3) (S 12 4) (S 12 5) (S 12 6) (S 12 7), flX cI cZ (a 1) (a 2) (a 3) (a 4) (a 5) (a 6) (a 7) (a 8) (S 0) (S 1) (S 2) (S 3) (S 4) (S 5) (S 6), ntX cI (a 9) (a 10) (a 11) (a 12) (S 7) (S 8) (S 9) (S 12 8), daX cI (a 13) (a 14) (S 10) (S 11)]) (some (.float (lsF S))) (List.flatten [rbC x0 (a 0) p0 q0 t0 k0 f0 w0, stO a (S 12 0) (S 12 1) (S 12 2) (S 12 3) (S 12 4) (S 12 5) (S 12 6) (S 12 7), flX cI cZ (a 1) (a 2) (a 3) (a 4) (a 5) (a 6) (a 7) (a 8) (S 0) (S 1) (S 2) (S 3) (S 4) (S 5) (S 6), ntX cI (a 9) (a 10) (a 11) (a 12) (S 7) (S 8) (S 9) (S 12 8), daX cI (a 13) (a 14) (S 10) (S 11)]) 0 0 := by
  refine C0_float (cc := cX6_lostShare) (maxL := 1) (by decide) rfl (Nat.le_of_ble_eq_true rfl) ?_
  intro p e s m below meth c A ls Q X hK hP hD hS hA hl hend
  have X : CallFix p m c cX6_lostShare 1 s ([.ref x0] : List Value).toArray wsX6_lostShare RX6 := X
  obtain ⟨hx, hb, hml, hown, hts⟩ := id X
  have hl : lv_has ls 1 [(0, .ref x0)] := hl
  have hinX4 : ∀ w ∈ u_ws RX4 TX4 12, w ∈ wsX6_lostShare := by decide +kernel
  have hinX6 : ∀ w ∈ u_ws RX6 TX6 7, w ∈ wsX6_lostShare := by decide +kernel
  refine lv_aload_n hx hb dX6_lostShare_0 rfl (lv_at hl 0 rfl) ?_
  refine va_get (D := D) (ci := 6) (v := .ref (a 0)) (C := RX6) (T := TX6) (N := 7) hx hb hts hinX6 hown hK hP 0 rfl rfl 0 (by decide) (hts (.fieldLink RX6 12 "RibbonBalloons" "now" "LRibbonBalloons$State;") (by decide +kernel)) (fun _ h9 => h9) rfl dX6_lostShare_1 ?_
  refine va_get (D := D) (ci := 4) (v := .int (S 12 2)) (C := RX4) (T := TX4) (N := 12) hx hb hts hinX4 hown hK hP 1 rfl rfl 6 (by decide) (hts (.fieldLink RX6 215 "RibbonBalloons$State" "leaked" "I") (by decide +kernel)) (fun _ h9 => h9) rfl dX6_lostShare_4 ?_
  refine lv_aload_n hx hb dX6_lostShare_7 rfl (lv_at hl 0 rfl) ?_
  refine va_get (D := D) (ci := 6) (v := .ref (a 0)) (C := RX6) (T := TX6) (N := 7) hx hb hts hinX6 hown hK hP 0 rfl rfl 0 (by decide) (hts (.fieldLink RX6 12 "RibbonBalloons" "now" "LRibbonBalloons$State;") (by decide +kernel)) (fun _ h9 => h9) rfl dX6_lostShare_8 ?_
  refine va_get (D := D) (ci := 4) (v := .int (S 12 3)) (C := RX4) (T := TX4) (N := 12) hx hb hts hinX4 hown hK hP 1 rfl rfl 7 (by decide) (hts (.fieldLink RX6 218 "RibbonBalloons$State" "vented" "I") (by decide +kernel)) (fun _ h9 => h9) rfl dX6_lostShare_11 ?_
  refine lv_iadd hx hb dX6_lostShare_14 ?_
  refine lv_i2f hx hb dX6_lostShare_15 ?_
  refine lv_sipush (v := 480) hx hb dX6_lostShare_16 (by decide) ?_
  refine lv_aload_n hx hb dX6_lostShare_19 rfl (lv_at hl 0 rfl) ?_
  refine va_get (D := D) (ci := 6) (v := .ref (a 0)) (C := RX6) (T := TX6) (N := 7) hx hb hts hinX6 hown hK hP 0 rfl rfl 0 (by decide) (hts (.fieldLink RX6 12 "RibbonBalloons" "now" "LRibbonBalloons$State;") (by decide +kernel)) (fun _ h9 => h9) rfl dX6_lostShare_20 ?_
  refine va_get (D := D) (ci := 4) (v := .int (S 12 1)) (C := RX4) (T := TX4) (N := 12) hx hb hts hinX4 hown hK hP 1 rfl rfl 5 (by decide) (hts (.fieldLink RX6 212 "RibbonBalloons$State" "filled" "I") (by decide +kernel)) (fun _ h9 => h9) rfl dX6_lostShare_23 ?_
  refine lv_iadd hx hb dX6_lostShare_26 ?_
  refine lv_i2f hx hb dX6_lostShare_27 ?_
  refine lv_fdiv hx hb dX6_lostShare_28 hL ?_
  refine hend _ _ _ _ _ ?_ hP hD hS dX6_lostShare_29
  exact rfl
